theorem KK_start {s : State} {A : Array Value} (hts : ∀ w ∈ lw_tbl, w.before A s = true) : ∃ g : kG, KK g s := by
  have htg : ∀ w ∈ lw_good, w.before A s = true := fun w hw => hts w (List.mem_filter.mp hw).1
  obtain ⟨c0, i0, h0⟩ := u_known (C := RX0) (T := TX0) (N := 4) (n := 4) htg i_X0 (htg (.instantiable RX0 4) w_41)
  obtain ⟨c1, i1, h1⟩ := u_known (C := RX1) (T := TX1) (N := 5) (n := 5) htg i_X1 (htg (.instantiable RX1 5) w_94)
  obtain ⟨c2, i2, h2⟩ := u_known (C := RX2) (T := TX2) (N := 4) (n := 4) htg i_X2 (htg (.instantiable RX2 4) w_63)
  obtain ⟨c3, i3, h3⟩ := u_known (C := RX3) (T := TX3) (N := 13) (n := 13) htg i_X3 (htg (.instantiable RX3 13) w_86)
  obtain ⟨c4, i4, h4'⟩ := u_known (C := RX4) (T := TX4) (N := 7) (n := 7) htg i_X4 (htg (.instantiable RX4 7) w_33)
  obtain ⟨cI1, kI, compI, f1, f2, f3⟩ := Cond.arrayClass_spec (htg _ w_61)
  obtain ⟨compC, cC1, kC, g1, g2, g3, g4, g5⟩ := Cond.arrayOver_spec (hts _ w_121)
  obtain ⟨compS, cS1, kS, q1, q2, q3, q4, q5⟩ := Cond.arrayOver_spec (hts _ w_174)
  refine ⟨((fun k => if k = 0 then c0 else if k = 1 then c1 else if k = 2 then c2 else if k = 3 then c3 else c4, fun k => if k = 0 then i0 else if k = 1 then i1 else if k = 2 then i2 else if k = 3 then i3 else i4), (cI1, (cC1, cS1))), ⟨fun c q hq => ?_, fun k q hk => ?_⟩, va_Nw.of rfl (hts _ w_308), va_Nw.of rfl (hts _ w_538), va_AO.of (hts _ w_121), va_AO.of (hts _ w_174)⟩
  · match c, hq with
    | 0, hq => cases hq; exact h0
    | 1, hq => cases hq; exact h1
    | 2, hq => cases hq; exact h2
    | 3, hq => cases hq; exact h3
    | 4, hq => cases hq; exact h4'
    | c + 5, hq => simp [kCl] at hq
  · match k, hk with
    | 0, hk => cases hk; exact ⟨fun n z => ⟨fun k h => (by cases h), kI, f2, compI, f3⟩, f1⟩
    | 1, hk => cases hk; exact ⟨fun n z => ⟨fun k h => (by cases h), kC, g3, compC, g4⟩, ⟨kC, compC, g3, g4, g1, g5⟩⟩
    | 2, hk => cases hk; exact ⟨fun n z => ⟨fun k h => (by cases h), kS, q3, compS, q4⟩, ⟨kS, compS, q3, q4, q1, q5⟩⟩
    | k + 3, hk => simp at hk
theorem XW.recv {g : kG} {x a : Nat → Nat} {M : Nat → Prop} {n : Nat} {f : Nat → Int32} {H : Heap} {s : State} (h : XW g x a M f n H) (hK : KK g s) : ∃ cellB : Cell, H[x 0]? = some cellB ∧ cellB.vm.isStatics = false ∧ s.vm.findClass RX4 = some cellB.cls := by
  obtain ⟨-, -, -, d, r, hs, ws, hP, -⟩ := h
  exact k_recv hK hP 0 rfl rfl
theorem vr_ok {f : Nat → Int32} (h1 : GV f 8) (h2 : GV f 12) : ∀ j, j ≤ 1 → s_vr f j := fun j hj => by
  have key : ∀ {v : Int32}, iv 2 20 v → nI 2 ≤ v ∧ v ≤ nI 20 := fun h => ⟨Int32.le_iff_toInt_le.mpr h.1, Int32.le_iff_toInt_le.mpr h.2⟩
  rcases (show j = 0 ∨ j = 1 by omega) with e | e <;> subst e
  · exact key h1.2.2.1
  · exact key h2.2.2.1
