/-! the law: its world -/
theorem KK_start {s : State} {A : Array Value} (hts : ∀ w ∈ lw_tbl, w.before A s = true) : ∃ g : kG, KK g s := by
  have htg : ∀ w ∈ lw_good, w.before A s = true := fun w hw => hts w (List.mem_filter.mp hw).1
  obtain ⟨c0, i0, h0⟩ := u_known (C := RX0) (T := TX0) (N := 4) (n := 4) htg i_X0 (htg (.instantiable RX0 4) w_72)
  obtain ⟨c1, i1, h1⟩ := u_known (C := RX1) (T := TX1) (N := 5) (n := 5) htg i_X1 (htg (.instantiable RX1 5) w_125)
  obtain ⟨c2, i2, h2⟩ := u_known (C := RX2) (T := TX2) (N := 4) (n := 4) htg i_X2 (htg (.instantiable RX2 4) w_94)
  obtain ⟨c3, i3, h3⟩ := u_known (C := RX3) (T := TX3) (N := 13) (n := 13) htg i_X3 (htg (.instantiable RX3 13) w_117)
  obtain ⟨c4, i4, h4'⟩ := u_known (C := RX4) (T := TX4) (N := 7) (n := 7) htg i_X4 (htg (.instantiable RX4 7) w_64)
  obtain ⟨c5, i5, h5⟩ := u_known (C := RX5) (T := TX5) (N := 2) (n := 2) htg i_X5 (htg (.instantiable RX5 2) w_633)
  obtain ⟨cI1, kI, compI, f1, f2, f3⟩ := Cond.arrayClass_spec (htg _ w_92)
  obtain ⟨compC, cC1, kC, g1, g2, g3, g4, g5⟩ := Cond.arrayOver_spec (hts _ w_152)
  obtain ⟨compS, cS1, kS, q1, q2, q3, q4, q5⟩ := Cond.arrayOver_spec (hts _ w_205)
  refine ⟨((fun k => if k = 0 then c0 else if k = 1 then c1 else if k = 2 then c2 else if k = 3 then c3 else if k = 4 then c4 else c5, fun k => if k = 0 then i0 else if k = 1 then i1 else if k = 2 then i2 else if k = 3 then i3 else if k = 4 then i4 else i5), (cI1, (cC1, cS1))), ⟨fun c q hq => ?_, fun k q hk => ?_⟩, va_Nw.of rfl (hts _ w_370), va_Nw.of rfl (hts _ w_448), va_AO.of (hts _ w_152), va_AO.of (hts _ w_205)⟩
  · match c, hq with
    | 0, hq => cases hq; exact h0
    | 1, hq => cases hq; exact h1
    | 2, hq => cases hq; exact h2
    | 3, hq => cases hq; exact h3
    | 4, hq => cases hq; exact h4'
    | 5, hq => cases hq; exact h5
    | c + 6, hq => simp [kCl] at hq
  · match k, hk with
    | 0, hk => cases hk; exact ⟨fun n z => ⟨fun k h => (by cases h), kI, f2, compI, f3⟩, f1⟩
    | 1, hk => cases hk; exact ⟨fun n z => ⟨fun k h => (by cases h), kC, g3, compC, g4⟩, ⟨kC, compC, g3, g4, g1, g5⟩⟩
    | 2, hk => cases hk; exact ⟨fun n z => ⟨fun k h => (by cases h), kS, q3, compS, q4⟩, ⟨kS, compS, q3, q4, q1, q5⟩⟩
    | k + 3, hk => simp at hk
/-- what stays as it is through the whole law -/
def LC (x : Nat → Nat) (M : Nat → Prop) (o q b0 top : Nat) : Prop := (x 8 = o ∧ x 9 = q) ∧ (∀ z, MF x M z → z ≠ o ∧ z ≠ q) ∧ ∀ z, MU x M z → b0 ≤ z ∧ z < top
/-- class and reference, at one content of the row -/
def LJ (g : kG) (x a : Nat → Nat) (M : Nat → Prop) (o q top : Nat) (f : Nat → Int32) (n : Nat) (H : Heap) : Prop := XW g x a M f n H ∧ RP g o q f n H ∧ GD f n ∧ top ≤ H.size
section LAWB
variable {g : kG} {x a : Nat → Nat} {M : Nat → Prop} {o q b0 top n : Nat} {f F : Nat → Int32} {H H1 : Heap} {A1 : Nat → Prop}
theorem LC.oo (h : LC x M o q b0 top) : b0 ≤ o ∧ o < top := by
  obtain ⟨⟨e1, -⟩, -, h3⟩ := h
  rw [← e1]
  exact h3 _ (Or.inr (Or.inr (Or.inl rfl)))
theorem LC.qq (h : LC x M o q b0 top) : b0 ≤ q ∧ q < top := by
  obtain ⟨⟨-, e1⟩, -, h3⟩ := h
  rw [← e1]
  exact h3 _ (Or.inr (Or.inr (Or.inr rfl)))
theorem MF.u {z : Nat} (h : MF x M z) : MU x M z := h.elim Or.inl (fun c => Or.inr (Or.inl c))
theorem RP.kept (h : RP g o q f n H) (hk : ∀ z : Nat, z < H.size → ¬ A1 z → H1[z]? = H[z]?) (ho : ¬ A1 o) (hq : ¬ A1 q) : RP g o q f n H1 := by
  obtain ⟨h1, h2, h3⟩ := h
  refine ⟨h1, h2, h3.kept (fun k z hz => hk z.1 (h3 k z hz).lt ?_)⟩
  match k, hz with
  | 0, hz => cases hz; exact ho
  | 1, hz => cases hz; exact hq
  | k + 2, hz => simp at hz
theorem XW.ref (h : XW g x a M f n H) (hC : LC x M o q b0 top) (hk : ∀ z : Nat, z < H.size → ¬ RA o q z → H1[z]? = H[z]?) : XW g x a M f n H1 := by
  obtain ⟨hn, hm, hx, d, r, hs, ws, hP, hD, hR, hB⟩ := h
  obtain ⟨⟨e8, e9⟩, h2, -⟩ := hC
  have n1 : ∀ z, MF x M z → ¬ RA o q z := fun z c c2 => c2.elim (fun e => (h2 z c).1 e) (fun e => (h2 z c).2 e)
  have n2 : ∀ z, ¬ MU x M z → ¬ RA o q z := fun z c c2 => c2.elim (fun e => c (Or.inr (Or.inr (Or.inl (by rw [e8]; exact e))))) (fun e => c (Or.inr (Or.inr (Or.inr (by rw [e9]; exact e)))))
  exact XW.mk hn hm (hx.kept (fun z h c => hk z h (n1 z (Or.inr c)))) (hP.kept (fun k z hz => hk z.1 (hP k z hz).lt (n1 _ (Or.inl (hD.2 k z hz))))) hD (hR.kept (fun z h c => hk z h (n2 z c))) (hB.kept (fun z h c => hk z h (n2 z c)))
theorem XW.recv {s : State} (h : XW g x a M f n H) (hK : KK g s) : ∃ cellB : Cell, H[x 0]? = some cellB ∧ cellB.vm.isStatics = false ∧ s.vm.findClass RX4 = some cellB.cls := by
  obtain ⟨-, -, -, d, r, hs, ws, hP, -⟩ := h
  exact k_recv hK hP 0 rfl rfl
theorem vr_ok (h1 : GV f 8) (h2 : GV f 12) : ∀ j, j ≤ 1 → s_vr f j := fun j hj => by
  have key : ∀ {v : Int32}, iv 2 20 v → nI 2 ≤ v ∧ v ≤ nI 20 := fun h => ⟨Int32.le_iff_toInt_le.mpr h.1, Int32.le_iff_toInt_le.mpr h.2⟩
  rcases (show j = 0 ∨ j = 1 by omega) with e | e <;> subst e
  · exact key h1.2.2.1
  · exact key h2.2.2.1
/-- two more addresses that no card has -/
theorem XW.rex {b : Nat} (h : XW g (k_xd b) a M f n H) (ho : H.size ≤ o) (hq : H.size ≤ q) : XW g (fun k => if k = 8 then o else if k = 9 then q else k_xd b k) a M f n H := by
  have key : ∀ z, z < H.size → ¬ MU (k_xd b) M z → ¬ MU (fun k => if k = 8 then o else if k = 9 then q else k_xd b k) M z := fun z hz c c2 => by
    rcases c2 with c2 | c2 | c2 | c2
    · exact c (Or.inl c2)
    · exact c (Or.inr (Or.inl c2))
    · have e : z = o := c2
      omega
    · have e : z = q := c2
      omega
  have kB : ∀ {F d : Nat → Int32} {r : Nat → Option Nat}, BOK g (k_xd b) (MU (k_xd b) M) F d r H → BOK g (fun k => if k = 8 then o else if k = 9 then q else k_xd b k) (MU (fun k => if k = 8 then o else if k = 9 then q else k_xd b k) M) F d r H := by
    intro F d r hB
    obtain ⟨h0, h1, h2, h3⟩ := hB
    refine ⟨h0, h1, fun i hi => ?_, fun i hi hi2 => ?_⟩
    · obtain ⟨z, e, c⟩ := h2 i hi
      refine ⟨z, e, c.imp id (fun c => ?_)⟩
      obtain ⟨c1, vs, c2⟩ := c
      exact ⟨key z c2.lt c1, vs, c2⟩
    · obtain ⟨z, zo, zi, e1, e2, e3, e4, e5⟩ := h3 i hi hi2
      exact ⟨z, zo, zi, e1, e2, key _ (e2 0 _ rfl).lt e3, key _ (e2 1 _ rfl).lt e4, key _ (e2 2 _ rfl).lt e5⟩
  obtain ⟨hn, hm, hx, d, r, hs, ws, hP, hD, ⟨a1, a2, a3, a4, F1, F2, F3, F4, d1, d2, d3, d4, r1, r2, r3, r4, e1, e2, b1, b2, b3, b4⟩, hB⟩ := h
  exact ⟨hn, hm, hx, d, r, hs, ws, hP, hD, ⟨a1, a2, a3, a4, F1, F2, F3, F4, d1, d2, d3, d4, r1, r2, r3, r4, e1, e2, fun c => ⟨(b1 c).1, kB (b1 c).2⟩, fun c => ⟨(b2 c).1, kB (b2 c).2⟩, fun c => ⟨(b3 c).1, kB (b3 c).2⟩, fun c => ⟨(b4 c).1, kB (b4 c).2⟩⟩, kB hB⟩
end LAWB
section LAWR
variable {p : Program} {l : Launch} {e : Env} {s : State} {m : MethodId} {args : Array Value} {below : List Frame} {meth : Method} {c : Code} {H : Heap} {locs : List Loc} {cells slots : Nat} {Q : State → Prop} {R : Room}
variable {pc : Nat} {ls : Array Slot} {b L k : Nat} {xs : Nat → Int32} {cc : ByteArray} {nL : Nat} {own : String}
theorem l_sld {rest : List Value} (hC : CallFix p m c cc nL s args lw_good own) (hX : va_X b L xs s s.heap) (hbl : b < s.heap.size) (hS : va_S (fun z => s.heap.size ≤ z) s.heap H locs) (hk : k < L) (hL : L ≤ 3072) (hdg : decode cc pc = .ok (.iaload, 1)) (kk : W p l e R s m args below meth c H locs cells slots Q (F0 m (pc + 1) ls (.int (xs k) :: rest))) : W p l e R s m args below meth c H locs cells slots Q (F0 m pc ls (.int (nI k) :: .ref b :: rest)) := by
  refine va_sld hC.1 hC.2.1 hX hbl (Nat.not_le.mpr hbl) hS (vp_in_nI hk (by omega)) hdg ?_
  rw [nI_clamp (by omega)]
  exact kk
end LAWR
