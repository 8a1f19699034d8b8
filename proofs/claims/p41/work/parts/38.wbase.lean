/-! rows that write, with what stays said cell by cell -/
section WO
variable {p : Program} {l : Launch} {e : Env} {R : Room} {s : State} {m : MethodId} {args : Array Value} {below : List Frame} {meth : Method} {c : Code} {H : Heap} {locs : List Loc} {cells slots : Nat} {Q : State → Prop}
variable {cc : ByteArray} {pc nL : Nat} {ls : Array Slot} {own : String} {g : kG} {ws : va_W} {A : Nat → Prop} {H0 : Heap} {rest : List Value} {a : Nat}
theorem k_putO (hC : CallFix p m c cc nL s args lw_good own) (hK : KK g s) {ref C : String} {T : u_T} {N ci index : Nat} (hin : ∀ w ∈ u_ws C T N, w ∈ lw_good) (ty0 : Nat → FieldType) (hty : ∀ k, k < N → parseFieldDescriptor (T k).2.2.1 = some (ty0 k)) (hnm : ∀ a, a < N → ∀ b, b < N → a ≠ b → (T a).2.1 ≠ (T b).2.1) (hP : va_P g.1 kCl ws H) (hD : va_D A ws) (hS0 : va_S A H0 H locs) (q0 : Nat) {fs : List Value} (he : ws[q0]? = some (a, .inr (ci, fs))) (hc : kCl[ci]? = some (C, T, N)) (k : Nat) (hk : k < N) (hlink : Cond.fieldLink own index ref (T k).2.1 (T k).2.2.1 ∈ lw_good) (hsame : ∀ x, s.fieldFound? (T k).1 (T k).2.1 (T k).2.2.1 = some x → s.fieldFound? ref (T k).2.1 (T k).2.2.1 = some x) (hfin : (T k).2.2.2 = false) {ty : FieldType} {v : Value} (hd : parseFieldDescriptor (T k).2.2.1 = some ty) (hn : narrow ty v = v) (hfit : fits ty v = true) (hl : k < fs.length)
    (hdg : decode cc pc = .ok (.putfield index, 3)) (kk : ∀ (H1 : Heap) (locs1 : List Loc), va_P g.1 kCl (ws.set q0 (a, .inr (ci, fs.set k v))) H1 → va_D A (ws.set q0 (a, .inr (ci, fs.set k v))) → va_S A H0 H1 locs1 → H1.size = H.size → (∀ q : Nat, q ≠ a → H1[q]? = H[q]?) → W p l e R s m args below meth c H1 locs1 cells slots Q (F0 m (pc + 3) ls rest)) : W p l e R s m args below meth c H locs cells slots Q (F0 m pc ls (v :: .ref a :: rest)) := by
  have hts := hC.2.2.2.2
  have hap := va_apart (own := own) hts hin ty0 hty hnm hK.1 hc
  obtain ⟨r, h1, cell, q1, q2, q3, q4⟩ := hP q0 _ he
  have hr : r = (C, T, N) := Option.some.inj (h1.symm.trans hc)
  subst hr
  obtain ⟨hS, hfc, kC, hkC, hkind⟩ := hK.1.1 ci _ hc
  obtain ⟨cf, kf, fi, f, hi, hsl⟩ := hS k hk
  have hlay := hts _ (hin _ (u_in_lay hk))
  unfold u_lay at hlay
  rw [if_neg (by rw [hfin]; decide)] at hlay
  refine W.putK hC.1 hC.2.1 (f := f) ⟨hC.2.2.2.1, hts _ hlink, ⟨_, _, _, hsame _ hi⟩, (u_facts hfc hkC (u_lays hts hin hk) hi).1⟩ (by rw [q2]; exact u_store hfc hkC hkind hlay hi hd hn hfit) q1 q3 (by rw [hsl]; exact k2_hasslot (q4 k hk)) rfl rfl hdg fun H' e1 e2 e3 => ?_
  rw [hsl] at e1 ⊢
  exact kk H' _ (hP.set hD he ⟨_, hc, t_OB.to (V := updV (vp_V fs) k v) ⟨_, e1, q2, q3, t_set q4 hap hk v⟩ (fun j _ => vp_updV_set hl v j)⟩ e3) (hD.set he) (hS0.put e2 e3 (hD.2 q0 _ he)) e2 e3
/-- a reference into an array: the object needs no place among the world's own cells -/
theorem x_ast (hC : CallFix p m c cc nL s args lw_good own) (hK : KK g s) (hP : va_P g.1 kCl ws H) (hD : va_D A ws) (hS : va_S A H0 H locs) (q0 t0 : Nat) {ci k v nn : Nat} {cA : ClassId} {r : vw_C} {vs : List Value} {f : Nat → Option Nat} (ha : ws[q0]? = some (a, .inl (cA, nn, .inr (.inr (.inr (.inr f)))))) (ht : (kTy g)[t0]? = some (cA, .object r.1)) (hv : va_at g.1 kCl (v, .inr (ci, vs)) H) (hc : kCl[ci]? = some r) (hk : k < nn) (h2 : nn < 2 ^ 31) (hdg : decode cc pc = .ok (.aastore, 1))
    (kk : ∀ (H1 : Heap) (locs1 : List Loc), va_P g.1 kCl (ws.set q0 (a, .inl (cA, nn, .inr (.inr (.inr (.inr (va_up f k (some v)))))))) H1 → va_D A (ws.set q0 (a, .inl (cA, nn, .inr (.inr (.inr (.inr (va_up f k (some v)))))))) → va_S A H0 H1 locs1 → H1.size = H.size → (∀ q : Nat, q ≠ a → H1[q]? = H[q]?) → W p l e R s m args below meth c H1 locs1 cells slots Q (F0 m (pc + 1) ls rest)) : W p l e R s m args below meth c H locs cells slots Q (F0 m pc ls (.ref v :: .int (nI k) :: .ref a :: rest)) := by
  have hin := vp_in_nI hk h2
  have hz := nI_clamp (n := k) (by omega)
  obtain ⟨r', hr', cellV, g1, g2, g3, -⟩ := hv
  have hcls := (hK.1.1 ci r hc).2
  obtain ⟨kA, comp, k1, k2, k3, -⟩ := (hK.1.2 t0 _ ht).2
  have hcomp : comp = g.1.1 ci := Option.some.inj (k3.symm.trans hcls.1)
  subst hcomp
  obtain ⟨kC, hkC, -⟩ := hcls.2
  refine W.aast hC.1 hC.2.1 (hP q0 _ ha) (fun q h => by cases h) (fun h => by cases h) k1 k2 rfl hkC ⟨fun q => hin (Or.inl q), by show _ < (arrV _ _ _).slots.size; rw [arrV_size, hz]; exact hk⟩ g1 (fun q h => by rw [g3] at h; cases h) (by rw [g2]; exact hkC) (by rw [g2]; exact va_assign hcls) rfl rfl hdg fun H1 e z oq => ?_
  rw [hz] at e ⊢
  refine kk H1 _ (hP.set hD ha ?_ oq) (hD.set ha) (hS.put z oq (hD.2 q0 _ ha)) z oq
  show H1[a]? = some (vp_cell _ _)
  rw [e, vp_cell_q, vp_cell_q, arrV_store]
  congr 2
  funext q
  by_cases hq : q = k
  · subst hq
    simp [updV, va_up, va_rf]
  · simp [updV, va_up, hq]
theorem q_astO (hC : CallFix p m c cc nL s args lw_good own) (hK : KK g s) (hP : va_P g.1 kCl ws H) (hD : va_D A ws) (hS : va_S A H0 H locs) (q0 : Nat) {k v nn : Nat} {vs : List Value} {f : Nat → Option Nat} (ha : ws[q0]? = some (a, .inl (g.2.2.1, nn, .inr (.inr (.inr (.inr f)))))) (hv : va_at g.1 kCl (v, .inr (0, vs)) H) (hk : k < nn) (h2 : nn < 2 ^ 31) (hdg : decode cc pc = .ok (.aastore, 1))
    (kk : ∀ (H1 : Heap) (locs1 : List Loc), va_P g.1 kCl (ws.set q0 (a, .inl (g.2.2.1, nn, .inr (.inr (.inr (.inr (va_up f k (some v)))))))) H1 → va_D A (ws.set q0 (a, .inl (g.2.2.1, nn, .inr (.inr (.inr (.inr (va_up f k (some v)))))))) → va_S A H0 H1 locs1 → H1.size = H.size → (∀ q : Nat, q ≠ a → H1[q]? = H[q]?) → W p l e R s m args below meth c H1 locs1 cells slots Q (F0 m (pc + 1) ls rest)) : W p l e R s m args below meth c H locs cells slots Q (F0 m pc ls (.ref v :: .int (nI k) :: .ref a :: rest)) :=
  x_ast (r := (RX0, TX0, 4)) hC hK hP hD hS q0 1 ha rfl hv rfl hk h2 hdg kk
theorem q_astO2 (hC : CallFix p m c cc nL s args lw_good own) (hK : KK g s) (hP : va_P g.1 kCl ws H) (hD : va_D A ws) (hS : va_S A H0 H locs) (q0 : Nat) {k v nn : Nat} {vs : List Value} {f : Nat → Option Nat} (ha : ws[q0]? = some (a, .inl (g.2.2.2, nn, .inr (.inr (.inr (.inr f)))))) (hv : va_at g.1 kCl (v, .inr (3, vs)) H) (hk : k < nn) (h2 : nn < 2 ^ 31) (hdg : decode cc pc = .ok (.aastore, 1))
    (kk : ∀ (H1 : Heap) (locs1 : List Loc), va_P g.1 kCl (ws.set q0 (a, .inl (g.2.2.2, nn, .inr (.inr (.inr (.inr (va_up f k (some v)))))))) H1 → va_D A (ws.set q0 (a, .inl (g.2.2.2, nn, .inr (.inr (.inr (.inr (va_up f k (some v)))))))) → va_S A H0 H1 locs1 → H1.size = H.size → (∀ q : Nat, q ≠ a → H1[q]? = H[q]?) → W p l e R s m args below meth c H1 locs1 cells slots Q (F0 m (pc + 1) ls rest)) : W p l e R s m args below meth c H locs cells slots Q (F0 m pc ls (.ref v :: .int (nI k) :: .ref a :: rest)) :=
  x_ast (r := (RX3, TX3, 13)) hC hK hP hD hS q0 2 ha rfl hv rfl hk h2 hdg kk
/-- a new object: its cell; what was there stays -/
theorem k_newO (hC : CallFix p m c cc nL s args lw_good own) (hK : KK g s) {C : String} {T : u_T} {N ci index : Nat} (hin : ∀ w ∈ u_ws C T N, w ∈ lw_good) (ty : Nat → FieldType) (hty : ∀ k, k < N → parseFieldDescriptor (T k).2.2.1 = some (ty k)) (hcl : Cond.classLink own index C ∈ lw_good) (hinst : Cond.instantiable C N ∈ lw_good) (hini : Cond.initialized C ∈ lw_good) (hS : va_S A H0 H locs) (hc : kCl[ci]? = some (C, T, N)) {fs : List Value} (hfs : ∀ j, j < N → defaultValue (ty j) = vp_V fs j) (hcells : cells + 1 ≤ R.cells) (hslots : slots + N ≤ R.slots) (hdg : decode cc pc = .ok (.new index, 3))
    (kk : ∀ (q : Nat) (H1 : Heap), q = H.size → va_at g.1 kCl (q, .inr (ci, fs)) H1 → H1.size = H.size + 1 → (∀ z : Nat, z < H.size → H1[z]? = H[z]?) → va_S A H0 H1 locs → W p l e R s m args below meth c H1 locs (cells + 1) (slots + N) Q (F0 m (pc + 3) ls (.ref q :: rest))) : W p l e R s m args below meth c H locs cells slots Q (F0 m pc ls rest) := by
  have hts := hC.2.2.2.2
  have hKn := hK.1.1 ci _ hc
  refine W.newcK hC.1 hC.2.1 hC.2.2.2.1 (hts _ hcl) (hts _ hinst) (hts _ hini) rfl hdg hcells hslots hKn.2.1 rfl fun H1 kC hkC e1 z1 o1 => ?_
  exact kk H.size H1 rfl ⟨_, hc, (u_born ty hts hin hKn hkC e1 hty).to hfs⟩ z1 o1 ⟨Nat.le_trans hS.1 (by omega), fun x h1 h2 => (o1 x (Nat.lt_of_lt_of_le h1 hS.1)).trans (hS.2.1 x h1 h2), hS.2.2⟩
/-- a new array of ints -/
theorem k_newaO (hC : CallFix p m c cc nL s args lw_good own) (hK : KK g s) (harr : Cond.arrayClass .int ∈ lw_good) (hS : va_S A H0 H locs) {n : Nat} (hn : n < 2 ^ 20) (hcells : cells + 1 ≤ R.cells) (hslots : slots + n ≤ R.slots) (hdg : decode cc pc = .ok (.newarray .int, 2))
    (kk : ∀ (q : Nat) (H1 : Heap), q = H.size → va_at g.1 kCl (cI g q n (fun _ => nI 0)) H1 → H1.size = H.size + 1 → (∀ z : Nat, z < H.size → H1[z]? = H[z]?) → va_S A H0 H1 locs → W p l e R s m args below meth c H1 locs (cells + 1) (slots + n) Q (F0 m (pc + 2) ls (.ref q :: rest))) : W p l e R s m args below meth c H locs cells slots Q (F0 m pc ls (.int (nI n) :: rest)) := by
  have hz : (nI n).toNatClampNeg = n := nI_clamp (by omega)
  refine va_newaK (atype := .int) (N := n) hC.1 hC.2.1 (hC.2.2.2.2 _ harr) rfl hdg rfl (nI_pos (by omega)) hz (by show n * 4 ≤ _; omega) hcells hslots rfl fun H1 cA e1 z1 o1 _ hNm => ?_
  have hA : cA = g.2.1 := by
    have h1 : s.vm.findClass ("[" ++ FieldType.int.toString) = some g.2.1 := (hK.1.2 0 (g.2.1, .int) rfl).2
    exact Option.some.inj (hNm.symm.trans h1)
  subst hA
  exact kk H.size H1 rfl e1 z1 o1 ⟨Nat.le_trans hS.1 (by omega), fun x h1 h2 => (o1 x (Nat.lt_of_lt_of_le h1 hS.1)).trans (hS.2.1 x h1 h2), hS.2.2⟩
end WO
/-! lists of cells put together -/
theorem va_mid {g : kG} {A A1 : Nat → Prop} {u v v' w : va_W} {H H1 : Heap} (hP : va_P g.1 kCl (u ++ (v ++ w)) H) (hD : va_D A (u ++ (v ++ w))) (hA : ∀ q, A1 q → ∃ (k : Nat) (p : Nat × va_E), v[k]? = some p ∧ p.1 = q) (hk : ∀ q : Nat, q < H.size → ¬ A1 q → H1[q]? = H[q]?) (hq : va_P g.1 kCl v' H1) : va_P g.1 kCl (u ++ (v' ++ w)) H1 := by
  have hv : ∀ (k : Nat) (p : Nat × va_E), v[k]? = some p → (u ++ (v ++ w))[u.length + k]? = some p := by
    intro k p h
    have hl : k < v.length := (List.getElem?_eq_some_iff.mp h).1
    rw [List.getElem?_append_right (by omega), Nat.add_sub_cancel_left, List.getElem?_append_left hl]
    exact h
  have key : ∀ (k : Nat) (p : Nat × va_E), (u ++ (v ++ w))[k]? = some p → (k < u.length ∨ u.length + v.length ≤ k) → va_at g.1 kCl p H1 := by
    intro k p h hr
    refine (hP k p h).kept (hk p.1 (hP k p h).lt (fun c => ?_))
    obtain ⟨j, p2, h2, e2⟩ := hA _ c
    have hl : j < v.length := (List.getElem?_eq_some_iff.mp h2).1
    have := hD.1 k (u.length + j) p p2 h (hv j p2 h2) e2.symm
    omega
  intro k p h
  rcases Nat.lt_or_ge k u.length with c | c
  · rw [List.getElem?_append_left c] at h
    exact key k p (by rw [List.getElem?_append_left c]; exact h) (Or.inl c)
  · rw [List.getElem?_append_right c] at h
    rcases Nat.lt_or_ge (k - u.length) v'.length with c2 | c2
    · rw [List.getElem?_append_left c2] at h
      exact hq _ p h
    · rw [List.getElem?_append_right c2] at h
      refine key (u.length + (v.length + (k - u.length - v'.length))) p ?_ (Or.inr (by omega))
      rw [List.getElem?_append_right (by omega), Nat.add_sub_cancel_left, List.getElem?_append_right (by omega), Nat.add_sub_cancel_left]
      exact h
theorem va_Dre {A : Nat → Prop} {ws ws' : va_W} (hD : va_D A ws) (h : ws.map Prod.fst = ws'.map Prod.fst) : va_D A ws' := by
  have key : ∀ (k : Nat) (p : Nat × va_E), ws'[k]? = some p → ∃ p', ws[k]? = some p' ∧ p'.1 = p.1 := by
    intro k p hp
    have h1 : (ws'.map Prod.fst)[k]? = some p.1 := by rw [List.getElem?_map, hp]; rfl
    rw [← h, List.getElem?_map] at h1
    cases hw : ws[k]? with
    | none => rw [hw] at h1; cases h1
    | some p' => rw [hw] at h1; exact ⟨p', rfl, Option.some.inj h1⟩
  refine ⟨fun i j p q hi hj hpq => ?_, fun k q hq => ?_⟩
  · obtain ⟨p', a1, a2⟩ := key i p hi
    obtain ⟨q', b1, b2⟩ := key j q hj
    exact hD.1 i j p' q' a1 b1 (a2.trans (hpq.trans b2.symm))
  · obtain ⟨q', b1, b2⟩ := key k q hq
    rw [← b2]
    exact hD.2 k q' b1
theorem va_Dmid {A : Nat → Prop} {u v v' w : va_W} (hD : va_D A (u ++ (v ++ w))) (h : v.map Prod.fst = v'.map Prod.fst) : va_D A (u ++ (v' ++ w)) :=
  va_Dre hD (by simp [List.map_append, h])
theorem va_in {g : kG} {ws : va_W} {H : Heap} {q : Nat × va_E} (hP : va_P g.1 kCl ws H) (k : Nat) (h : ws[k]? = some q) : va_at g.1 kCl q H := hP k q h
theorem va_one {g : kG} {q : Nat × va_E} {H : Heap} (h : va_at g.1 kCl q H) : va_P g.1 kCl [q] H := fun k z hz => by
  match k, hz with
  | 0, hz => cases hz; exact h
  | k + 1, hz => simp at hz
/-- some cells, where others are written -/
theorem XK.ofD {g : kG} {A A1 : Nat → Prop} {ws wi wj : va_W} {H : Heap} (hP : va_P g.1 kCl ws H) (hD : va_D A ws) (is js : List Nat) (hi : is.map (fun i => ws[i]?) = wi.map some) (hj : js.map (fun i => ws[i]?) = wj.map some) (hdis : ∀ i ∈ is, i ∉ js) (hA : ∀ q, A1 q → ∃ (k : Nat) (p : Nat × va_E), wj[k]? = some p ∧ p.1 = q) : XK g wi A1 H := by
  have at' : ∀ {is : List Nat} {w : va_W}, is.map (fun i => ws[i]?) = w.map some → ∀ (k : Nat) (q : Nat × va_E), w[k]? = some q → ∃ i, i ∈ is ∧ ws[i]? = some q := by
    intro is w hs k q hq
    have h1 : (is.map (fun i => ws[i]?))[k]? = some (some q) := by rw [hs, List.getElem?_map, hq]; rfl
    rw [List.getElem?_map] at h1
    cases hi : is[k]? with
    | none => rw [hi] at h1; cases h1
    | some i => rw [hi] at h1; exact ⟨i, List.mem_of_getElem? hi, Option.some.inj h1⟩
  refine ⟨fun k q hq => ?_, fun k q hq c => ?_⟩
  · obtain ⟨i, -, h⟩ := at' hi k q hq
    exact hP i q h
  · obtain ⟨i, h1, h2⟩ := at' hi k q hq
    obtain ⟨j, p, h3, h4⟩ := hA _ c
    obtain ⟨j2, h5, h6⟩ := at' hj j p h3
    have := hD.1 i j2 q p h2 h6 h4.symm
    subst this
    exact hdis i h1 h5
theorem XK.sub {g : kG} {ws ws' : va_W} {A A' : Nat → Prop} {H : Heap} (h : XK g ws A H) (is : List Nat) (hi : is.map (fun i => ws[i]?) = ws'.map some) (hA : ∀ q, A' q → A q) : XK g ws' A' H := by
  have at' : ∀ (k : Nat) (q : Nat × va_E), ws'[k]? = some q → ∃ i : Nat, ws[i]? = some q := by
    intro k q hq
    have h1 : (is.map (fun i => ws[i]?))[k]? = some (some q) := by rw [hi, List.getElem?_map, hq]; rfl
    rw [List.getElem?_map] at h1
    cases hi2 : is[k]? with
    | none => rw [hi2] at h1; cases h1
    | some i => rw [hi2] at h1; exact ⟨i, Option.some.inj h1⟩
  refine ⟨fun k q hq => ?_, fun k q hq c => ?_⟩
  · obtain ⟨i, h1⟩ := at' k q hq
    exact h.1 i q h1
  · obtain ⟨i, h1⟩ := at' k q hq
    exact h.2 i q h1 (hA _ c)
theorem vp_eqq {cA : ClassId} {n : Nat} {h h' : Nat → Option Nat} (e : ∀ k, k < n → h k = h' k) : vp_cell cA (n, .inr (.inr (.inr (.inr h)))) = vp_cell cA (n, .inr (.inr (.inr (.inr h')))) := by
  rw [vp_cell_q, vp_cell_q]
  unfold arrV
  have : (Array.ofFn (n := n) fun j => va_rf (h j.val)) = Array.ofFn (n := n) fun j => va_rf (h' j.val) := by
    congr 1
    funext j
    rw [e j.val j.isLt]
  rw [this]
/-! the class's states -/
abbrev cDv (a : Nat → Nat) (v0 v1 v2 : Int32) : Nat × va_E := (a 3, .inr (1, [.int v0, .int v1, .int v2, .ref (a 4), .ref (a 5)]))
abbrev wDr (g : kG) (a : Nat → Nat) (v0 v1 v2 : Int32) (d : Nat → Int32) : va_W := [cDv a v0 v1 v2, cI g (a 4) 21 d, cI g (a 5) 21 (fun k => d (21 + k))]
abbrev wS (g : kG) (a : Nat → Nat) (f d : Nat → Int32) (r : Nat → Option Nat) : va_W := [cS a f, cR g (a 6) r, cE (a 1) (f 8) (f 9) (f 10) (f 11), cE (a 2) (f 12) (f 13) (f 14) (f 15), cD a f, cI g (a 4) 21 d, cI g (a 5) 21 (fun k => d (21 + k))]
abbrev cH (g : kG) (y : Nat) (hs : Nat → Option Nat) : Nat × va_E := (y, .inl (g.2.2.2, 4, .inr (.inr (.inr (.inr hs)))))
abbrev wN (g : kG) (x a : Nat → Nat) (n : Nat) (f d : Nat → Int32) (r hs : Nat → Option Nat) : va_W := cM x (a 0) n :: cH g (x 1) hs :: wS g a f d r
def wO (g : kG) (x : Nat → Nat) (b1 b2 b3 b4 : va_W) : va_W := cC (x 2) (x 3) (x 4) (nI 0) (nI 0) :: (b1 ++ (b2 ++ (b3 ++ b4)))
/-- the cells of the states and the scratch; what no card is: these, and two more (x 8, x 9: another's) -/
def MF (x : Nat → Nat) (M : Nat → Prop) : Nat → Prop := fun q => M q ∨ SC x q
def MU (x : Nat → Nat) (M : Nat → Prop) : Nat → Prop := fun q => M q ∨ (SC x q ∨ q = x 8 ∨ q = x 9)
def h4 (q0 q1 q2 q3 : Nat) : Nat → Option Nat := fun k => if k = 0 then some q0 else if k = 1 then some q1 else if k = 2 then some q2 else some q3
/-- a state's block: its draft, its cards -/
def BOK (g : kG) (x : Nat → Nat) (M : Nat → Prop) (F d : Nat → Int32) (r : Nat → Option Nat) (H : Heap) : Prop :=
  (F 16 = nI 0 ∨ F 16 = nI 1) ∧ (F 16 = nI 1 → ∀ k, k < 42 → d k = F (19 + k) - nI 1) ∧
  (∀ i, i < 10 → ∃ q, r i = some q ∧ (q = x 2 ∨ (¬ M q ∧ ∃ vs, va_at g.1 kCl (q, .inr (0, vs)) H))) ∧
  (∀ i, i < (F 61).toNatClampNeg → i < 10 → ∃ q qo qi, r i = some q ∧ va_P g.1 kCl (wC g q qo qi (F (62 + 44 * i)) (F (62 + 44 * i + 1)) (s_pt F i)) H ∧ ¬ M q ∧ ¬ M qo ∧ ¬ M qi)
def HB (g : kG) (x : Nat → Nat) (M : Nat → Prop) (f : Nat → Int32) (n b : Nat) (F d : Nat → Int32) (r : Nat → Option Nat) (H : Heap) : Prop :=
  b ≤ n → (∀ j, j < 502 → F j = f (502 * b + j)) ∧ BOK g x (MU x M) F d r H
def XR (g : kG) (x : Nat → Nat) (M : Nat → Prop) (f : Nat → Int32) (n : Nat) (hs : Nat → Option Nat) (ws : va_W) (H : Heap) : Prop :=
  ∃ (a1 a2 a3 a4 : Nat → Nat) (F1 F2 F3 F4 d1 d2 d3 d4 : Nat → Int32) (r1 r2 r3 r4 : Nat → Option Nat),
    hs = h4 (a1 0) (a2 0) (a3 0) (a4 0) ∧ ws = wO g x (wS g a1 F1 d1 r1) (wS g a2 F2 d2 r2) (wS g a3 F3 d3 r3) (wS g a4 F4 d4 r4) ∧
    HB g x M f n 1 F1 d1 r1 H ∧ HB g x M f n 2 F2 d2 r2 H ∧ HB g x M f n 3 F3 d3 r3 H ∧ HB g x M f n 4 F4 d4 r4 H
def XW (g : kG) (x a : Nat → Nat) (M : Nat → Prop) (f : Nat → Int32) (n : Nat) (H : Heap) : Prop :=
  n ≤ 4 ∧ (∀ q, M q → ¬ SC x q) ∧ XS g x H ∧ ∃ (d : Nat → Int32) (r hs : Nat → Option Nat) (ws : va_W), va_P g.1 kCl (wN g x a n f d r hs ++ ws) H ∧ va_D M (wN g x a n f d r hs ++ ws) ∧ XR g x M f n hs ws H ∧ BOK g x (MU x M) f d r H
section XWS
variable {g : kG} {x a : Nat → Nat} {M : Nat → Prop} {f f' F F' d : Nat → Int32} {r hs : Nat → Option Nat} {n b : Nat} {ws : va_W} {H H1 : Heap}
theorem PC_eq {q qo qi : Nat} {e0 sp : Int32} {p p' : Nat → Int32} (h : va_P g.1 kCl (wC g q qo qi e0 sp p) H) (e : ∀ k, k < 42 → p k = p' k) : va_P g.1 kCl (wC g q qo qi e0 sp p') H := fun k z hz => by
  match k, hz with
  | 0, hz => cases hz; exact h 0 _ rfl
  | 1, hz => cases hz; have := h 1 _ rfl; exact this.trans (congrArg some (vp_eq (fun k hk => e k (by omega))))
  | 2, hz => cases hz; have := h 2 _ rfl; exact this.trans (congrArg some (vp_eq (fun k hk => e (21 + k) (by omega))))
  | k + 3, hz => simp at hz
theorem PC_kept {q qo qi : Nat} {e0 sp : Int32} {p : Nat → Int32} (h : va_P g.1 kCl (wC g q qo qi e0 sp p) H) (h1 : ¬ M q) (h2 : ¬ M qo) (h3 : ¬ M qi) (hk : ∀ q : Nat, q < H.size → ¬ M q → H1[q]? = H[q]?) : va_P g.1 kCl (wC g q qo qi e0 sp p) H1 :=
  h.kept (fun k z hz => hk z.1 (h k z hz).lt (by
    match k, hz with
    | 0, hz => cases hz; exact h1
    | 1, hz => cases hz; exact h2
    | 2, hz => cases hz; exact h3
    | k + 3, hz => simp at hz))
theorem BOK.kept (h : BOK g x M F d r H) (hk : ∀ q : Nat, q < H.size → ¬ M q → H1[q]? = H[q]?) : BOK g x M F d r H1 := by
  obtain ⟨h0, h1, h2, h3⟩ := h
  refine ⟨h0, h1, fun i hi => ?_, fun i hi hi2 => ?_⟩
  · obtain ⟨q, e, c⟩ := h2 i hi
    refine ⟨q, e, c.imp id (fun c => ?_)⟩
    obtain ⟨c1, vs, c2⟩ := c
    exact ⟨c1, vs, c2.kept (hk q c2.lt c1)⟩
  · obtain ⟨q, qo, qi, e1, e2, e3, e4, e5⟩ := h3 i hi hi2
    exact ⟨q, qo, qi, e1, PC_kept e2 e3 e4 e5 hk, e3, e4, e5⟩
theorem BOK.congr (h : BOK g x M F d r H) (e : ∀ j, j < 502 → F j = F' j) : BOK g x M F' d r H := by
  obtain ⟨h0, h1, h2, h3⟩ := h
  refine ⟨?_, fun q k hk => ?_, h2, fun i hi hi2 => ?_⟩
  · rw [← e 16 (by omega)]; exact h0
  · rw [← e 16 (by omega)] at q; rw [← e (19 + k) (by omega)]; exact h1 q k hk
  · rw [← e 61 (by omega)] at hi
    obtain ⟨q, qo, qi, e1, e2, e3, e4, e5⟩ := h3 i hi hi2
    rw [← e (62 + 44 * i) (by omega), ← e (62 + 44 * i + 1) (by omega)]
    exact ⟨q, qo, qi, e1, PC_eq e2 (fun k hk => e _ (by omega)), e3, e4, e5⟩
theorem HB.kept (h : HB g x M f n b F d r H) (hk : ∀ q : Nat, q < H.size → ¬ MU x M q → H1[q]? = H[q]?) : HB g x M f n b F d r H1 := fun c => ⟨(h c).1, (h c).2.kept hk⟩
theorem XR.kept (h : XR g x M f n hs ws H) (hk : ∀ q : Nat, q < H.size → ¬ MU x M q → H1[q]? = H[q]?) : XR g x M f n hs ws H1 := by
  obtain ⟨a1, a2, a3, a4, F1, F2, F3, F4, d1, d2, d3, d4, r1, r2, r3, r4, e1, e2, b1, b2, b3, b4⟩ := h
  exact ⟨a1, a2, a3, a4, F1, F2, F3, F4, d1, d2, d3, d4, r1, r2, r3, r4, e1, e2, b1.kept hk, b2.kept hk, b3.kept hk, b4.kept hk⟩
theorem HB.congr (h : HB g x M f n b F d r H) (hb : 1 ≤ b) (hb4 : b ≤ 4) (e : ∀ j, 502 ≤ j → j < 2510 → f' j = f j) : HB g x M f' n b F d r H := fun c => ⟨fun j hj => by
  rw [e _ (by omega) (by omega)]; exact (h c).1 j hj, (h c).2⟩
theorem XR.congr (h : XR g x M f n hs ws H) (e : ∀ j, 502 ≤ j → j < 2510 → f' j = f j) : XR g x M f' n hs ws H := by
  obtain ⟨a1, a2, a3, a4, F1, F2, F3, F4, d1, d2, d3, d4, r1, r2, r3, r4, e1, e2, b1, b2, b3, b4⟩ := h
  exact ⟨a1, a2, a3, a4, F1, F2, F3, F4, d1, d2, d3, d4, r1, r2, r3, r4, e1, e2, b1.congr (by omega) (by omega) e, b2.congr (by omega) (by omega) e, b3.congr (by omega) (by omega) e, b4.congr (by omega) (by omega) e⟩
theorem wS_eq (e : ∀ j, j < 502 → F j = F' j) : wS g a F d r = wS g a F' d r := by
  show [cS a F, cR g (a 6) r, cE (a 1) (F 8) (F 9) (F 10) (F 11), cE (a 2) (F 12) (F 13) (F 14) (F 15), cD a F, cI g (a 4) 21 d, cI g (a 5) 21 (fun k => d (21 + k))] = _
  rw [show cS a F = cS a F' by rw [cS, cS, e 0 (by omega), e 1 (by omega), e 2 (by omega), e 3 (by omega), e 4 (by omega), e 5 (by omega), e 6 (by omega), e 7 (by omega), e 61 (by omega)], show cD a F = cD a F' by rw [cD, cD, e 16 (by omega), e 17 (by omega), e 18 (by omega)], e 8 (by omega), e 9 (by omega), e 10 (by omega), e 11 (by omega), e 12 (by omega), e 13 (by omega), e 14 (by omega), e 15 (by omega)]
theorem XS.kept (h : XS g x H) (hk : ∀ q : Nat, q < H.size → SC x q → H1[q]? = H[q]?) : XS g x H1 := by
  obtain ⟨tr, te, fo, so, hP, hD⟩ := h
  exact ⟨tr, te, fo, so, hP.kept (fun k q hq => hk q.1 (hP k q hq).lt (hD.2 k q hq)), hD⟩
theorem XW.mk {d : Nat → Int32} {r : Nat → Option Nat} (hn : n ≤ 4) (hm : ∀ q, M q → ¬ SC x q) (hx : XS g x H) (hP : va_P g.1 kCl (wN g x a n f d r hs ++ ws) H) (hD : va_D M (wN g x a n f d r hs ++ ws)) (hR : XR g x M f n hs ws H) (hB : BOK g x (MU x M) f d r H) : XW g x a M f n H := ⟨hn, hm, hx, d, r, hs, ws, hP, hD, hR, hB⟩
/-- what was opened, with another block 0 -/
theorem XW.close {d' : Nat → Int32} {r' : Nat → Option Nat} (hX : XW g x a M f n H) (hP : va_P g.1 kCl (wN g x a n f' d' r' hs ++ ws) H1) (hD : va_D M (wN g x a n f' d' r' hs ++ ws)) (hR : XR g x M f n hs ws H) (hk : ∀ q : Nat, q < H.size → ¬ M q → H1[q]? = H[q]?) (e : ∀ j, 502 ≤ j → j < 2510 → f' j = f j) (hB : BOK g x (MU x M) f' d' r' H1) : XW g x a M f' n H1 :=
  XW.mk hX.1 hX.2.1 (hX.2.2.1.kept (fun q h c => hk q h (fun c2 => hX.2.1 q c2 c))) hP hD ((hR.kept (fun q h c => hk q h (fun c2 => c (Or.inl c2)))).congr e) hB
theorem XW.congr (h : XW g x a M f n H) (e : ∀ j, j < 2510 → f j = f' j) : XW g x a M f' n H := by
  obtain ⟨hn, hm, hx, d, r, hs, ws, hP, hD, hR, hB⟩ := h
  have e1 : wN g x a n f d r hs = wN g x a n f' d r hs := by rw [wN, wN, wS_eq (fun j hj => e j (by omega))]
  rw [e1] at hP hD
  exact XW.mk hn hm hx hP hD (hR.congr (fun j h1 h2 => (e j h2).symm)) (hB.congr (fun j hj => e j (by omega)))
theorem XW.old (h : XW g x a M f n H) (hk : ∀ q : Nat, q < H.size → H1[q]? = H[q]?) : XW g x a M f n H1 := by
  obtain ⟨hn, hm, hx, d, r, hs, ws, hP, hD, hR, hB⟩ := h
  exact XW.mk hn hm (hx.kept (fun q h _ => hk q h)) (hP.kept (fun k q hq => hk q.1 (hP k q hq).lt)) hD (hR.kept (fun q h _ => hk q h)) (hB.kept (fun q h _ => hk q h))
/-- what the queries want, and back -/
theorem XW.xb {cn : Nat} (hc : f 61 = nI cn) (hcn : cn ≤ 10) {d : Nat → Int32} (hm : ∀ q, M q → ¬ SC x q) (hP : va_P g.1 kCl (wN g x a n f d r hs ++ ws) H) (hD : va_D M (wN g x a n f d r hs ++ ws)) (hR : XR g x M f n hs ws H) (hB : BOK g x (MU x M) f d r H) : XB g x a n f cn r H := by
  obtain ⟨a1, a2, a3, a4, F1, F2, F3, F4, d1, d2, d3, d4, r1, r2, r3, r4, e1, e2, -⟩ := hR
  subst e2
  have hsub : va_P g.1 kCl (wB g x a n f r) H := hP.sub [0, 2, 4, 5, 3, 9] rfl
  refine ⟨hsub, fun k q hq => ?_, fun i hi => ?_⟩
  · match k, hq with
    | 0, hq => cases hq; exact hm _ (hD.2 0 _ rfl)
    | 1, hq => cases hq; exact hm _ (hD.2 2 _ rfl)
    | 2, hq => cases hq; exact hm _ (hD.2 4 _ rfl)
    | 3, hq => cases hq; exact hm _ (hD.2 5 _ rfl)
    | 4, hq => cases hq; exact hm _ (hD.2 3 _ rfl)
    | 5, hq => cases hq; exact hm _ (hD.2 9 _ rfl)
    | k + 6, hq => simp at hq
  · obtain ⟨q, qo, qi, z1, z2, z3, z4, z5⟩ := hB.2.2.2 i (by rw [hc, nI_clamp (by omega)]; exact hi) (by omega)
    exact ⟨q, qo, qi, z1, z2, fun c => z3 (Or.inr (Or.inl c)), fun c => z4 (Or.inr (Or.inl c)), fun c => z5 (Or.inr (Or.inl c))⟩
theorem XW.q {cn : Nat} (h : XW g x a M f n H) (hc : f 61 = nI cn) (hcn : cn ≤ 10) : ∃ r, XB g x a n f cn r H ∧ XS g x H ∧ ∀ H1 : Heap, (∀ q : Nat, q < H.size → ¬ SC x q → H1[q]? = H[q]?) → XS g x H1 → XW g x a M f n H1 := by
  obtain ⟨hn, hm, hx, d, r, hs, ws, hP, hD, hR, hB⟩ := h
  refine ⟨r, XW.xb hc hcn hm hP hD hR hB, hx, fun H1 hk hx1 => ?_⟩
  exact XW.mk hn hm hx1 (hP.kept (fun k q hq => hk q.1 (hP k q hq).lt (hm _ (hD.2 k q hq)))) hD (hR.kept (fun q h c => hk q h (fun c2 => c (Or.inr (Or.inl c2))))) (hB.kept (fun q h c => hk q h (fun c2 => c (Or.inr (Or.inl c2)))))
end XWS
