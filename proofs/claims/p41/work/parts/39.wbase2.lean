theorem va_setE {g : kG} {ws : va_W} {q1 a : Nat} {e e' : va_E} {H : Heap} (h : va_P g.1 kCl (ws.set q1 (a, e)) H) (he : va_at g.1 kCl (a, e) H → va_at g.1 kCl (a, e') H) : va_P g.1 kCl (ws.set q1 (a, e')) H := by
  intro k p hp
  rw [List.getElem?_set] at hp
  by_cases c : q1 = k
  · rw [if_pos c] at hp
    by_cases c2 : q1 < ws.length
    · rw [if_pos c2] at hp
      cases hp
      exact he (h q1 _ (by rw [List.getElem?_set, if_pos rfl, if_pos c2]))
    · rw [if_neg c2] at hp
      cases hp
  · rw [if_neg c] at hp
    exact h k p (by rw [List.getElem?_set, if_neg c]; exact hp)
theorem va_DsetE {A : Nat → Prop} {ws : va_W} {q1 a : Nat} {e e' : va_E} (h : va_D A (ws.set q1 (a, e))) : va_D A (ws.set q1 (a, e')) := va_Dre h (by rw [List.map_set, List.map_set])
theorem cI_eq {g : kG} {y n : Nat} {h h' : Nat → Int32} {H : Heap} (e : ∀ k, k < n → h k = h' k) (hq : va_at g.1 kCl (cI g y n h) H) : va_at g.1 kCl (cI g y n h') H := by
  have h1 : H[y]? = some (vp_cell g.2.1 (n, .inl h)) := hq
  exact (h1.trans (congrArg some (vp_eq e)) : H[y]? = some (vp_cell g.2.1 (n, .inl h')))
theorem cR_eq {g : kG} {y : Nat} {h h' : Nat → Option Nat} {H : Heap} (e : ∀ k, k < 10 → h k = h' k) (hq : va_at g.1 kCl (cR g y h) H) : va_at g.1 kCl (cR g y h') H := by
  have h1 : H[y]? = some (vp_cell g.2.2.1 (10, .inr (.inr (.inr (.inr h))))) := hq
  exact (h1.trans (congrArg some (vp_eqq e)) : H[y]? = some (vp_cell g.2.2.1 (10, .inr (.inr (.inr (.inr h'))))))
theorem cH_eq {g : kG} {y : Nat} {h h' : Nat → Option Nat} {H : Heap} (e : ∀ k, k < 4 → h k = h' k) (hq : va_at g.1 kCl (cH g y h) H) : va_at g.1 kCl (cH g y h') H := by
  have h1 : H[y]? = some (vp_cell g.2.2.2 (4, .inr (.inr (.inr (.inr h))))) := hq
  exact (h1.trans (congrArg some (vp_eqq e)) : H[y]? = some (vp_cell g.2.2.2 (4, .inr (.inr (.inr (.inr h'))))))
theorem cpy21 {f h : Nat → Int32} {k : Nat} (hk : k < 21) : va_cpy f h (nI 0).toNatClampNeg (nI 0).toNatClampNeg (nI 21).toNatClampNeg k = f k := by
  rw [show (nI 0).toNatClampNeg = 0 from rfl, show (nI 21).toNatClampNeg = 21 from rfl]
  unfold va_cpy
  rw [if_pos ⟨Nat.zero_le _, by omega⟩, Nat.sub_zero, Nat.zero_add]
section WO2
variable {p : Program} {l : Launch} {e : Env} {R : Room} {s : State} {m : MethodId} {args : Array Value} {below : List Frame} {meth : Method} {c : Code} {H : Heap} {locs : List Loc} {cells slots : Nat} {Q : State → Prop}
variable {cc : ByteArray} {pc nL : Nat} {ls : Array Slot} {own : String} {g : kG} {ws : va_W} {A : Nat → Prop} {H0 : Heap} {rest : List Value} {a a0 : Nat} {f h : Nat → Int32}
/-- 21 ints from one row to another -/
theorem k_cpy (hC : CallFix p m c cc nL s args lw_good own) (hK : KK g s) (hP : va_P g.1 kCl ws H) (hD : va_D A ws) (hS : va_S A H0 H locs) (q0 q1 : Nat) {idx : Nat} (ha0 : ws[q0]? = some (a0, .inl (g.2.1, 21, .inl f))) (ha1 : ws[q1]? = some (a, .inl (g.2.1, 21, .inl h))) (hlink : Cond.methodLink own idx arraycopyName ∈ lw_good) (hnat : Cond.native arraycopyName ∈ lw_good) (hstat : Cond.static arraycopyName ∈ lw_good) (hini : Cond.initialized "java/lang/System" ∈ lw_good) (hsz : ls.size = nL) (hcat : (rest.map fun v => v.category).sum ≤ 8) (hfr : 1 ≤ R.frames) (hlo : 8 + (nativeFrameWords "java/lang/System" "arraycopy" 5 + 11) ≤ R.locals) (hdg : decode cc pc = .ok (.invokestatic idx, 3))
    (kk : ∀ (H1 : Heap) (locs1 : List Loc), va_P g.1 kCl (ws.set q1 (a, .inl (g.2.1, 21, .inl f))) H1 → va_D A (ws.set q1 (a, .inl (g.2.1, 21, .inl f))) → va_S A H0 H1 locs1 → W p l e R s m args below meth c H1 locs1 cells slots Q (F0 m (pc + 3) ls rest)) : W p l e R s m args below meth c H locs cells slots Q (F0 m pc ls (.int (nI 21) :: .int (nI 0) :: .ref a :: .int (nI 0) :: .ref a0 :: rest)) := by
  refine va_copyi hC.1 hC.2.1 (hC.2.2.1.trans hsz.symm) hC.2.2.2.1 (hC.2.2.2.2 _ hlink) (hC.2.2.2.2 _ hnat) (hC.2.2.2.2 _ hstat) (hC.2.2.2.2 _ hini) hK.1 hP hD hS q0 q1 0 0 (ty := .int) ha0 ha1 rfl rfl rfl (by decide) (by decide) (by decide) (by decide) (by decide) (fun _ _ => rfl) hfr (by omega) hdg (fun H1 locs1 hP1 hD1 hS1 => kk H1 locs1 (va_setE hP1 (cI_eq (fun k hk => cpy21 hk))) (va_DsetE hD1) hS1)
end WO2
/-- cells written in a call, among all of a world's: where each comes from (0: as it was, 1: the callee's) -/
theorem va_over {g : kG} {A A1 : Nat → Prop} {ws wc w1 ws' : va_W} {H H1 : Heap} (hP : va_P g.1 kCl ws H) (hD : va_D A ws) (is : List Nat) (js : List (Nat × Nat)) (hc : is.map (fun i => ws[i]?) = wc.map some) (hA : ∀ q, A1 q → ∃ (k : Nat) (p : Nat × va_E), wc[k]? = some p ∧ p.1 = q) (hk : ∀ q : Nat, q < H.size → ¬ A1 q → H1[q]? = H[q]?) (hq : va_P g.1 kCl w1 H1) (hs : js.map (fun z => if z.1 = 0 then ws[z.2]? else w1[z.2]?) = ws'.map some) (hd : ∀ z ∈ js, z.1 = 0 → z.2 ∉ is) : va_P g.1 kCl ws' H1 := by
  intro k p hp
  have h1 : (js.map (fun z => if z.1 = 0 then ws[z.2]? else w1[z.2]?))[k]? = some (some p) := by rw [hs, List.getElem?_map, hp]; rfl
  rw [List.getElem?_map] at h1
  cases hj : js[k]? with
  | none => rw [hj] at h1; cases h1
  | some z =>
    rw [hj] at h1
    have h2 : (if z.1 = 0 then ws[z.2]? else w1[z.2]?) = some p := Option.some.inj h1
    by_cases c : z.1 = 0
    · have h3 : ws[z.2]? = some p := by rw [if_pos c] at h2; exact h2
      refine (hP z.2 p h3).kept (hk p.1 (hP z.2 p h3).lt (fun q => ?_))
      obtain ⟨j, p2, h4, e4⟩ := hA _ q
      have h5 : (is.map (fun i => ws[i]?))[j]? = some (some p2) := by rw [hc, List.getElem?_map, h4]; rfl
      rw [List.getElem?_map] at h5
      cases hi : is[j]? with
      | none => rw [hi] at h5; cases h5
      | some i =>
        rw [hi] at h5
        have := hD.1 z.2 i p p2 h3 (Option.some.inj h5) e4.symm
        exact hd z (List.mem_of_getElem? hj) c (by rw [this]; exact List.mem_of_getElem? hi)
    · rw [if_neg c] at h2
      exact hq z.2 p h2
/-- the addresses of some cells -/
def aof (ws : va_W) : Nat → Prop := fun q => ∃ (k : Nat) (p : Nat × va_E), ws[k]? = some p ∧ p.1 = q
theorem aof_id {ws : va_W} : ∀ q, aof ws q → ∃ (k : Nat) (p : Nat × va_E), ws[k]? = some p ∧ p.1 = q := fun _ h => h
theorem aof_at {ws : va_W} (k : Nat) {p : Nat × va_E} (h : ws[k]? = some p) : aof ws p.1 := ⟨k, p, h, rfl⟩
theorem aof_in {A : Nat → Prop} {ws wc : va_W} (hD : va_D A ws) (is : List Nat) (hc : is.map (fun i => ws[i]?) = wc.map some) : ∀ q, aof wc q → A q := by
  intro q h
  obtain ⟨j, p, h4, e4⟩ := h
  have h5 : (is.map (fun i => ws[i]?))[j]? = some (some p) := by rw [hc, List.getElem?_map, h4]; rfl
  rw [List.getElem?_map] at h5
  cases hi : is[j]? with
  | none => rw [hi] at h5; cases h5
  | some i => rw [hi] at h5; rw [← e4]; exact hD.2 i p (Option.some.inj h5)
theorem k_narv {v : Int32} (h : v = nI 0 ∨ v = nI 1) : narrow .boolean (.int v) = .int v := by
  rcases h with q | q
  · subst q; decide +kernel
  · subst q; decide +kernel
theorem k_fitv {v : Int32} (h : v = nI 0 ∨ v = nI 1) : fits .boolean (.int v) = true := by
  rcases h with q | q
  · subst q; decide +kernel
  · subst q; decide +kernel
