abbrev cSv (a : Nat → Nat) (f : Nat → Int32) (v : Int32) : Nat × va_E := (a 0, .inr (3, [.int (f 0), .int (f 1), .int (f 2), .int (f 3), .int (f 4), .int (f 5), .int (f 6), .int (f 7), .ref (a 1), .ref (a 2), .ref (a 3), .ref (a 6), .int v]))
theorem sp_ct {h0 f1 : Nat → Int32} {j k : Nat} {pr : Int32} (hd : ∀ t, t < 21 → h0 t = f1 (19 + 21 * j + t) - nI 1) (hp : ∀ t, t < 21 → 0 ≤ (f1 (19 + 21 * j + t)).toInt) (hpr : 0 ≤ (pr + nI 1).toInt) : k_ct (upd h0 k pr) 21 = s_cnt (fun t => s_spU f1 j k pr (19 + 21 * j + t)) 21 := by
  refine ct_eq 21 (fun t ht => ?_) (fun t ht => ?_)
  · show upd h0 k pr t = upd f1 (19 + 21 * j + k) (pr + nI 1) (19 + 21 * j + t) - nI 1
    by_cases c : t = k
    · subst c; rw [upd_at, upd_at, Int32.add_sub_cancel]
    · rw [upd_ne _ _ _ _ c, upd_ne _ _ _ _ (by omega), hd t ht]
  · show 0 ≤ (upd f1 (19 + 21 * j + k) (pr + nI 1) (19 + 21 * j + t)).toInt
    by_cases c : t = k
    · subst c; rw [upd_at]; exact hpr
    · rw [upd_ne _ _ _ _ (by omega)]; exact hp t ht
theorem pr_1 {pr : Int32} (h : nI 0 ≤ pr ∧ pr ≤ nI 5000) : 0 ≤ (pr + nI 1).toInt ∧ (pr + nI 1).toInt ≤ 5001 := by
  have h1 := Int32.le_iff_toInt_le.mp h.1
  have h2 := Int32.le_iff_toInt_le.mp h.2
  have z0 : (nI 0).toInt = 0 := rfl
  have z1 : (nI 1).toInt = 1 := rfl
  have z5 : (nI 5000).toInt = 5000 := rfl
  rw [fb_addI (by omega) (by omega)]
  omega
section SPW
variable {g : kG} {x a : Nat → Nat} {M : Nat → Prop} {f f1 F F' d d' : Nat → Int32} {r r' hs : Nat → Option Nat} {n j k : Nat} {H H0 : Heap} {st sa pr v : Int32} {z ws : va_W}
theorem sp_t {u : Nat} (h : s_okP st sa pr) (hz : f 16 = nI 1) (hj : st.toNatClampNeg = j) (hk : sa.toNatClampNeg = k) (ef : f1 = s_rec f n) (ev : u = s_cnt (fun t => s_spU f1 j k pr (19 + 21 * j + t)) 21) (hX : XW g x a M (s_spU f1 j k pr) (s_recn n) H) : nI u = s_spR f n st sa pr ∧ XW g x a M (s_spF f n st sa pr) (s_spN f n st sa pr) H := by
  have h0 : ¬ f 16 = nI 0 := by rw [hz]; decide
  subst ef
  unfold s_spR s_spF s_spN
  rw [if_pos h, if_neg h0, if_pos ⟨h, h0⟩, if_pos ⟨h, h0⟩, hj, hk, ev]
  exact ⟨rfl, hX⟩
theorem sp_f (h : ¬ s_okP st sa pr) (hX : XW g x a M f n H) : cINV = s_spR f n st sa pr ∧ XW g x a M (s_spF f n st sa pr) (s_spN f n st sa pr) H := by
  unfold s_spR s_spF s_spN
  rw [if_neg h, if_neg (fun q => h q.1), if_neg (fun q => h q.1)]
  exact ⟨rfl, hX⟩
theorem sp_i (h : s_okP st sa pr) (h0 : f 16 = nI 0) (hX : XW g x a M f n H) : cILL = s_spR f n st sa pr ∧ XW g x a M (s_spF f n st sa pr) (s_spN f n st sa pr) H := by
  unfold s_spR s_spF s_spN
  rw [if_pos h, if_pos h0, if_neg (fun q => q.2 h0), if_neg (fun q => q.2 h0)]
  exact ⟨rfl, hX⟩
theorem wS_eq19 (e : ∀ j, j < 19 → F' j = F j) (e61 : F' 61 = F 61) : wS g a F d r = wS g a F' d r := by
  show [cS a F, cR g (a 6) r, cE (a 1) (F 8) (F 9) (F 10) (F 11), cE (a 2) (F 12) (F 13) (F 14) (F 15), cD a F, cI g (a 4) 21 d, cI g (a 5) 21 (fun k => d (21 + k))] = _
  rw [show cS a F = cS a F' by rw [cS, cS, e 0 (by omega), e 1 (by omega), e 2 (by omega), e 3 (by omega), e 4 (by omega), e 5 (by omega), e 6 (by omega), e 7 (by omega), e61], show cD a F = cD a F' by rw [cD, cD, e 16 (by omega), e 17 (by omega), e 18 (by omega)], ← e 8 (by omega), ← e 9 (by omega), ← e 10 (by omega), ← e 11 (by omega), ← e 12 (by omega), ← e 13 (by omega), ← e 14 (by omega), ← e 15 (by omega)]
theorem spU_e (hj : j ≤ 1) (hk : k ≤ 20) (pr : Int32) : ∀ i, (i < 19 ∨ 61 ≤ i) → s_spU f j k pr i = f i := fun i hi => by
  unfold s_spU
  rw [upd_ne _ _ _ _ (by omega)]
theorem sp_P0 (hk : k ≤ 20) (h : va_P g.1 kCl (cM x (a 0) n :: cH g (x 1) hs :: cS a F :: cR g (a 6) r :: cE (a 1) (F 8) (F 9) (F 10) (F 11) :: cE (a 2) (F 12) (F 13) (F 14) (F 15) :: cD a F :: cI g (a 4) 21 (upd d k pr) :: cI g (a 5) 21 (fun t => d (21 + t)) :: z) H) : va_P g.1 kCl (wN g x a n (s_spU F 0 k pr) (upd d (21 * 0 + k) pr) r hs ++ z) H := by
  have e1 : wN g x a n (s_spU F 0 k pr) (upd d (21 * 0 + k) pr) r hs = wN g x a n F (upd d (21 * 0 + k) pr) r hs := by
    rw [wN, wN, wS_eq19 (F := F) (F' := s_spU F 0 k pr) (fun i hi => spU_e (j := 0) (by decide) hk pr i (Or.inl hi)) (spU_e (j := 0) (by decide) hk pr 61 (Or.inr (by decide)))]
  rw [e1]
  have h7 := va_setE (ws := cM x (a 0) n :: cH g (x 1) hs :: cS a F :: cR g (a 6) r :: cE (a 1) (F 8) (F 9) (F 10) (F 11) :: cE (a 2) (F 12) (F 13) (F 14) (F 15) :: cD a F :: cI g (a 4) 21 (upd d k pr) :: cI g (a 5) 21 (fun t => d (21 + t)) :: z) (q1 := 7) (a := a 4) (e' := .inl (g.2.1, 21, .inl (upd d (21 * 0 + k) pr))) h (cI_eq (fun t _ => by rw [show 21 * 0 + k = k by omega]))
  exact va_setE (ws := cM x (a 0) n :: cH g (x 1) hs :: cS a F :: cR g (a 6) r :: cE (a 1) (F 8) (F 9) (F 10) (F 11) :: cE (a 2) (F 12) (F 13) (F 14) (F 15) :: cD a F :: cI g (a 4) 21 (upd d (21 * 0 + k) pr) :: cI g (a 5) 21 (fun t => d (21 + t)) :: z) (q1 := 8) (a := a 5) (e' := .inl (g.2.1, 21, .inl (fun t => upd d (21 * 0 + k) pr (21 + t)))) h7 (cI_eq (fun t _ => by rw [upd_ne _ _ _ _ (by omega)]))
theorem sp_P1 (hk : k ≤ 20) (h : va_P g.1 kCl (cM x (a 0) n :: cH g (x 1) hs :: cS a F :: cR g (a 6) r :: cE (a 1) (F 8) (F 9) (F 10) (F 11) :: cE (a 2) (F 12) (F 13) (F 14) (F 15) :: cD a F :: cI g (a 4) 21 d :: cI g (a 5) 21 (upd (fun t => d (21 + t)) k pr) :: z) H) : va_P g.1 kCl (wN g x a n (s_spU F 1 k pr) (upd d (21 * 1 + k) pr) r hs ++ z) H := by
  have e1 : wN g x a n (s_spU F 1 k pr) (upd d (21 * 1 + k) pr) r hs = wN g x a n F (upd d (21 * 1 + k) pr) r hs := by
    rw [wN, wN, wS_eq19 (F := F) (F' := s_spU F 1 k pr) (fun i hi => spU_e (j := 1) (by decide) hk pr i (Or.inl hi)) (spU_e (j := 1) (by decide) hk pr 61 (Or.inr (by decide)))]
  rw [e1]
  have h7 := va_setE (ws := cM x (a 0) n :: cH g (x 1) hs :: cS a F :: cR g (a 6) r :: cE (a 1) (F 8) (F 9) (F 10) (F 11) :: cE (a 2) (F 12) (F 13) (F 14) (F 15) :: cD a F :: cI g (a 4) 21 d :: cI g (a 5) 21 (upd (fun t => d (21 + t)) k pr) :: z) (q1 := 7) (a := a 4) (e' := .inl (g.2.1, 21, .inl (upd d (21 * 1 + k) pr))) h (cI_eq (fun t ht => by rw [upd_ne _ _ _ _ (by omega)]))
  exact va_setE (ws := cM x (a 0) n :: cH g (x 1) hs :: cS a F :: cR g (a 6) r :: cE (a 1) (F 8) (F 9) (F 10) (F 11) :: cE (a 2) (F 12) (F 13) (F 14) (F 15) :: cD a F :: cI g (a 4) 21 (upd d (21 * 1 + k) pr) :: cI g (a 5) 21 (upd (fun t => d (21 + t)) k pr) :: z) (q1 := 8) (a := a 5) (e' := .inl (g.2.1, 21, .inl (fun t => upd d (21 * 1 + k) pr (21 + t)))) h7 (cI_eq (fun t ht => by
    by_cases c : t = k
    · subst c; rw [upd_at, show 21 * 1 + t = 21 + t by omega, upd_at]
    · rw [upd_ne _ _ _ _ c, upd_ne _ _ _ _ (by omega)]))
theorem sp_B (hj : j ≤ 1) (hk : k ≤ 20) (h16 : F 16 = nI 1) (hB : BOK g x M F d r H) : BOK g x M (s_spU F j k pr) (upd d (21 * j + k) pr) r H := by
  refine hB.draft (Or.inr (by rw [spU_e hj hk pr 16 (Or.inl (by decide))]; exact h16)) (fun _ t ht => ?_) (fun i h1 h2 => (spU_e hj hk pr i (Or.inr h1)).symm)
  unfold s_spU
  by_cases c : t = 21 * j + k
  · subst c; rw [upd_at, show 19 + (21 * j + k) = 19 + 21 * j + k by omega, upd_at, Int32.add_sub_cancel]
  · rw [upd_ne _ _ _ _ c, upd_ne _ _ _ _ (by omega)]; exact hB.2.1 h16 t ht
/-! cards' places -/
def k_sh (r : Nat → Option Nat) (j i : Nat) : Nat → Option Nat := fun k => if j ≤ k ∧ k + 1 < i then r (k + 1) else r k
theorem sh_0 (r : Nat → Option Nat) (j : Nat) : k_sh r j (j + 1) = r := by
  funext k
  exact if_neg (by omega)
theorem sh_at {i : Nat} : k_sh r j i i = r i := if_neg (by omega)
theorem sh_s {i q : Nat} (hi : j + 1 ≤ i) (h : r i = some q) : va_up (k_sh r j i) (i - 1) (some q) = k_sh r j (i + 1) := by
  funext k
  unfold va_up k_sh
  by_cases e : k = i - 1
  · subst e; rw [if_pos rfl, if_pos (by omega), show i - 1 + 1 = i by omega, h]
  · rw [if_neg e]
    by_cases e2 : j ≤ k ∧ k + 1 < i
    · rw [if_pos e2, if_pos (by omega)]
    · rw [if_neg e2, if_neg (by omega)]
theorem rm_lo {cn i : Nat} (hi : i < 62 + 44 * j) (h61 : i ≠ 61) : s_rmU f j cn i = f i := by
  unfold s_rmU s_rmG
  rw [upd_ne _ _ _ _ h61, s_fl_out _ _ _ _ _ (by omega)]
theorem rm_61 {cn : Nat} : s_rmU f j cn 61 = nI (cn - 1) := upd_at _ _ _
theorem rm_hi {cn i : Nat} (hcn : cn ≤ 10) (hj : j < cn) (hi : 502 ≤ i) : s_rmU f j cn i = f i := by
  unfold s_rmU s_rmG
  rw [upd_ne _ _ _ _ (by omega), s_fl_out _ _ _ _ _ (by omega)]
theorem rm_mid {cn i t : Nat} (h1 : j ≤ i) (h2 : i + 1 < cn) (ht : t < 44) : s_rmU f j cn (62 + 44 * i + t) = f (62 + 44 * (i + 1) + t) := by
  unfold s_rmU s_rmG
  rw [upd_ne _ _ _ _ (by omega), show 62 + 44 * i + t = 62 + 44 * j + (44 * (i - j) + t) by omega, s_fl_in _ _ _ _ _ (by omega)]
  congr 1
  omega
theorem wSv_eq (e : ∀ j, j < 61 → F' j = F j) (e61 : F' 61 = v) : (cM x (a 0) n :: cH g (x 1) hs :: cSv a F v :: cR g (a 6) r :: cE (a 1) (F 8) (F 9) (F 10) (F 11) :: cE (a 2) (F 12) (F 13) (F 14) (F 15) :: cD a F :: cI g (a 4) 21 d :: cI g (a 5) 21 (fun k => d (21 + k)) :: z) = wN g x a n F' d r hs ++ z := by
  subst e61
  rw [show cSv a F (F' 61) = cS a F' by rw [cSv, cS, e 0 (by omega), e 1 (by omega), e 2 (by omega), e 3 (by omega), e 4 (by omega), e 5 (by omega), e 6 (by omega), e 7 (by omega)], show cD a F = cD a F' by rw [cD, cD, e 16 (by omega), e 17 (by omega), e 18 (by omega)], ← e 8 (by omega), ← e 9 (by omega), ← e 10 (by omega), ← e 11 (by omega), ← e 12 (by omega), ← e 13 (by omega), ← e 14 (by omega), ← e 15 (by omega)]
  rfl
theorem rm_B {cn : Nat} (hc : F 61 = nI cn) (hcn : cn ≤ 10) (hj : j < cn) (hB : BOK g x M F d r H) : BOK g x M (s_rmU F j cn) d (k_sh r j cn) H := by
  obtain ⟨h0, h1, h2, h3⟩ := hB
  refine ⟨by rw [rm_lo (by omega) (by omega)]; exact h0, fun q k hk => by rw [rm_lo (by omega) (by omega)] at q; rw [rm_lo (by omega) (by omega)]; exact h1 q k hk, fun i hi => ?_, fun i hi hi2 => ?_⟩
  · by_cases c : j ≤ i ∧ i + 1 < cn
    · rw [show k_sh r j cn i = r (i + 1) from if_pos c]; exact h2 (i + 1) (by omega)
    · rw [show k_sh r j cn i = r i from if_neg c]; exact h2 i hi
  · rw [rm_61, nI_clamp (by omega)] at hi
    by_cases c : j ≤ i
    · rw [show k_sh r j cn i = r (i + 1) from if_pos ⟨c, by omega⟩]
      obtain ⟨q, qo, qi, e1, e2, e3, e4, e5⟩ := h3 (i + 1) (by rw [hc, nI_clamp (by omega)]; omega) (by omega)
      rw [show s_rmU F j cn (62 + 44 * i) = F (62 + 44 * (i + 1)) from rm_mid (t := 0) c (by omega) (by decide), rm_mid c (by omega) (by decide)]
      refine ⟨q, qo, qi, e1, PC_eq e2 (fun k hk => ?_), e3, e4, e5⟩
      show F (62 + 44 * (i + 1) + 2 + k) = s_rmU F j cn (62 + 44 * i + 2 + k)
      rw [show 62 + 44 * i + 2 + k = 62 + 44 * i + (2 + k) by omega, rm_mid c (by omega) (by omega), Nat.add_assoc]
    · rw [show k_sh r j cn i = r i from if_neg (by omega)]
      obtain ⟨q, qo, qi, e1, e2, e3, e4, e5⟩ := h3 i (by rw [hc, nI_clamp (by omega)]; omega) (by omega)
      rw [rm_lo (by omega) (by omega), rm_lo (by omega) (by omega)]
      exact ⟨q, qo, qi, e1, PC_eq e2 (fun k hk => by show F (62 + 44 * i + 2 + k) = s_rmU F j cn (62 + 44 * i + 2 + k); exact (rm_lo (by omega) (by omega)).symm), e3, e4, e5⟩
theorem XW.drop {cn : Nat} {R9 : Nat → Option Nat} (hc : f 61 = nI cn) (hcn : cn ≤ 10) (hj : j < cn) (hX : XW g x a M f n H0) (hP : va_P g.1 kCl (cM x (a 0) n :: cH g (x 1) hs :: cSv a f (nI (cn - 1)) :: cR g (a 6) R9 :: cE (a 1) (f 8) (f 9) (f 10) (f 11) :: cE (a 2) (f 12) (f 13) (f 14) (f 15) :: cD a f :: cI g (a 4) 21 d :: cI g (a 5) 21 (fun k => d (21 + k)) :: ws) H) (hD : va_D M (cM x (a 0) n :: cH g (x 1) hs :: cSv a f (nI (cn - 1)) :: cR g (a 6) R9 :: cE (a 1) (f 8) (f 9) (f 10) (f 11) :: cE (a 2) (f 12) (f 13) (f 14) (f 15) :: cD a f :: cI g (a 4) 21 d :: cI g (a 5) 21 (fun k => d (21 + k)) :: ws)) (hR : XR g x M f n hs ws H0) (hk : ∀ q : Nat, q < H0.size → ¬ M q → H[q]? = H0[q]?) (hB : BOK g x (MU x M) f d r H0) (e9 : R9 = k_sh r j cn) : XW g x a M (s_rmU f j cn) n H := by
  subst e9
  have e1 := wSv_eq (g := g) (x := x) (a := a) (n := n) (hs := hs) (F := f) (F' := s_rmU f j cn) (d := d) (r := k_sh r j cn) (v := nI (cn - 1)) (z := ws) (fun i hi => rm_lo (by omega) (by omega)) rm_61
  rw [e1] at hP hD
  exact XW.close hX hP hD hR hk (fun i h1 h2 => rm_hi hcn hj h1) (rm_B hc hcn hj (hB.kept (fun q h c => hk q h (fun z => c (Or.inl z)))))
/-- a card added -/
def k_acU (f : Nat → Int32) (cn : Nat) (e0 sp : Int32) (p : Nat → Int32) : Nat → Int32 := upd (s_fl (upd (upd f (62 + 44 * cn) e0) (62 + 44 * cn + 1) sp) (62 + 44 * cn + 2) p 42) 61 (nI (cn + 1))
theorem ac_lo {cn i : Nat} {e0 sp : Int32} {p : Nat → Int32} (hi : i < 62 + 44 * cn) (h61 : i ≠ 61) : k_acU f cn e0 sp p i = f i := by
  unfold k_acU
  rw [upd_ne _ _ _ _ h61, s_fl_out _ _ _ _ _ (by omega), upd_ne _ _ _ _ (by omega), upd_ne _ _ _ _ (by omega)]
theorem ac_hi {cn i : Nat} {e0 sp : Int32} {p : Nat → Int32} (hcn : cn < 10) (hi : 502 ≤ i) : k_acU f cn e0 sp p i = f i := by
  unfold k_acU
  rw [upd_ne _ _ _ _ (by omega), s_fl_out _ _ _ _ _ (by omega), upd_ne _ _ _ _ (by omega), upd_ne _ _ _ _ (by omega)]
theorem ac_61 {cn : Nat} {e0 sp : Int32} {p : Nat → Int32} : k_acU f cn e0 sp p 61 = nI (cn + 1) := upd_at _ _ _
theorem ac_e {cn : Nat} {e0 sp : Int32} {p : Nat → Int32} : k_acU f cn e0 sp p (62 + 44 * cn) = e0 := by
  unfold k_acU
  rw [upd_ne _ _ _ _ (by omega), s_fl_out _ _ _ _ _ (by omega), upd_ne _ _ _ _ (by omega), upd_at]
theorem ac_s {cn : Nat} {e0 sp : Int32} {p : Nat → Int32} : k_acU f cn e0 sp p (62 + 44 * cn + 1) = sp := by
  unfold k_acU
  rw [upd_ne _ _ _ _ (by omega), s_fl_out _ _ _ _ _ (by omega), upd_at]
theorem ac_p {cn t : Nat} {e0 sp : Int32} {p : Nat → Int32} (ht : t < 42) : k_acU f cn e0 sp p (62 + 44 * cn + 2 + t) = p t := by
  unfold k_acU
  rw [upd_ne _ _ _ _ (by omega), s_fl_in _ _ _ _ _ ht]
theorem XW.add {cn qc qo qi : Nat} {e0 sp : Int32} {p : Nat → Int32} (hc : f 61 = nI cn) (hcn : cn < 10) (hX : XW g x a M f n H0) (hP : va_P g.1 kCl (cM x (a 0) n :: cH g (x 1) hs :: cSv a f (nI (cn + 1)) :: cR g (a 6) (va_up r cn (some qc)) :: cE (a 1) (f 8) (f 9) (f 10) (f 11) :: cE (a 2) (f 12) (f 13) (f 14) (f 15) :: cD a f :: cI g (a 4) 21 d :: cI g (a 5) 21 (fun k => d (21 + k)) :: ws) H) (hD : va_D M (cM x (a 0) n :: cH g (x 1) hs :: cSv a f (nI (cn + 1)) :: cR g (a 6) (va_up r cn (some qc)) :: cE (a 1) (f 8) (f 9) (f 10) (f 11) :: cE (a 2) (f 12) (f 13) (f 14) (f 15) :: cD a f :: cI g (a 4) 21 d :: cI g (a 5) 21 (fun k => d (21 + k)) :: ws)) (hR : XR g x M f n hs ws H0) (hk : ∀ q : Nat, q < H0.size → ¬ M q → H[q]? = H0[q]?) (hB : BOK g x (MU x M) f d r H0) (hCd : va_P g.1 kCl (wC g qc qo qi e0 sp p) H0) (n1 : ¬ MU x M qc) (n2 : ¬ MU x M qo) (n3 : ¬ MU x M qi) : XW g x a M (k_acU f cn e0 sp p) n H := by
  have hkU : ∀ q : Nat, q < H0.size → ¬ MU x M q → H[q]? = H0[q]? := fun q h c => hk q h (fun z => c (Or.inl z))
  have hC1 := PC_kept hCd n1 n2 n3 hkU
  have e1 := wSv_eq (g := g) (x := x) (a := a) (n := n) (hs := hs) (F := f) (F' := k_acU f cn e0 sp p) (d := d) (r := va_up r cn (some qc)) (v := nI (cn + 1)) (z := ws) (fun i hi => ac_lo (by omega) (by omega)) ac_61
  rw [e1] at hP hD
  refine XW.close hX hP hD hR hk (fun i h1 h2 => ac_hi hcn h1) ?_
  obtain ⟨h0, h1, h2, h3⟩ := hB.kept hkU
  refine ⟨by rw [ac_lo (by omega) (by omega)]; exact h0, fun q k hk => by rw [ac_lo (by omega) (by omega)] at q; rw [ac_lo (by omega) (by omega)]; exact h1 q k hk, fun i hi => ?_, fun i hi hi2 => ?_⟩
  · by_cases c : i = cn
    · subst c; exact ⟨qc, va_up_self _ _ _, Or.inr ⟨n1, _, hC1 0 _ rfl⟩⟩
    · rw [va_up_ne _ _ c]; exact h2 i hi
  · rw [ac_61, nI_clamp (by omega)] at hi
    by_cases c : i = cn
    · subst c
      rw [ac_e, ac_s]
      exact ⟨qc, qo, qi, va_up_self _ _ _, PC_eq hC1 (fun k hk => (ac_p hk).symm), n1, n2, n3⟩
    · rw [va_up_ne _ _ c, ac_lo (by omega) (by omega), ac_lo (by omega) (by omega)]
      obtain ⟨q, qo, qi, e1, e2, e3, e4, e5⟩ := h3 i (by rw [hc, nI_clamp (by omega)]; omega) hi2
      exact ⟨q, qo, qi, e1, PC_eq e2 (fun k hk => by show f (62 + 44 * i + 2 + k) = k_acU f cn e0 sp p (62 + 44 * i + 2 + k); exact (ac_lo (by omega) (by omega)).symm), e3, e4, e5⟩
end SPW
theorem L_X4_X1_pointsOf : LnkV RX4 137 yX1_pointsOf cX1_pointsOf 2 (some (.array .int)) 1 := ⟨w_268, w_269, w_270, w_29, w_271, ⟨by decide +kernel, by decide +kernel⟩, by decide +kernel⟩
theorem L_X4_X4_countPoints : LnkS RX4 141 yX4_countPoints cX4_countPoints 3 (some .int) 1 := ⟨w_272, w_273, w_25, w_274, ⟨by decide +kernel, by decide +kernel⟩, by decide +kernel⟩
set_option maxHeartbeats 4000000 in
set_option maxRecDepth 100000 in
theorem c_X4_setPoint (l : Launch) (g : kG) (x : Nat → Nat) (a : Nat → Nat) (M : Nat → Prop) (f : Nat → Int32) (n : Nat) (st : Int32) (sa : Int32) (pr : Int32) (hPt : ∀ k, k < 42 → 0 ≤ (f (19 + k)).toInt) : MI l yX4_setPoint cX4_setPoint 5 (some .int) (rr 4 103) [.ref (x 0), .int (st), .int (sa), .int (pr)] ((XW g x a M f n)) g 0 0 (M) (fun r H1 => r = s_spR f n st sa pr ∧ XW g x a M (s_spF f n st sa pr) (s_spN f n st sa pr) H1) := by
  refine kOf (by decide) (Nat.le_of_ble_eq_true rfl) (fun p e s m below meth c ls hC hr hlk hin hK hP hl => ?_)
  have hx := hC.1
  have hb := hC.2.1
  have hml := hC.2.2.1
  have hown := hC.2.2.2.1
  have hts := hC.2.2.2.2
  have hl : lv_has ls 5 [(0, .ref (x 0)), (1, .int (st)), (2, .int (sa)), (3, .int (pr))] := hl
  have hXW := hP
  obtain ⟨hn4, hm, hx0, d, r, hs, w0, hM, hD, hR, hB⟩ := hXW
  obtain ⟨ws, ews⟩ := hR.trial
  subst ews
  have hXW : XW g x a M f n s.heap := XW.mk hn4 hm hx0 hM hD hR hB
  have hF : KF M s.heap s.heap := KF.rf
  have hS : va_S (M) s.heap s.heap [] := va_S.rf
  refine lv_iload_n hx hb dX4_setPoint_0 rfl (lvG hl rfl) ?_
  refine k_callPI (k_goS (rest := []) hC hK (c_X4_isStroke l g st) L_X4_X4_isStroke (⟨⟨Nat.le_of_ble_eq_true rfl, Nat.le_of_ble_eq_true rfl⟩, ⟨rfl, rfl⟩, ⟨Nat.le_of_ble_eq_true rfl, Nat.le_of_ble_eq_true rfl⟩⟩) (trivial) rfl hl.1 rfl (Nat.le_of_ble_eq_true rfl) dX4_setPoint_1) ?_
  refine b_ifeq (tgt := 25) hC dX4_setPoint_4 (by decide) (fun zc4 => ?_) (fun zc4 => ?_)
  · refine lv_ldc (v := (-2000000001 : Int32)) hx hb hown (hts _ w_204) dX4_setPoint_25 ?_
    exact k_iretM hC hr hlk hS dX4_setPoint_27 (by first | exact sp_f (fun q => zc4 q.1) hXW | exact sp_f (fun q => zc11 q.2.1) hXW | exact sp_f (fun q => zc22 q.2.2) hXW)
  · refine lv_iload_n hx hb dX4_setPoint_7 rfl (lvG hl rfl) ?_
    refine k_callPI (k_goS (rest := []) hC hK (c_X4_isStation l g sa) L_X4_X4_isStation (⟨⟨Nat.le_of_ble_eq_true rfl, Nat.le_of_ble_eq_true rfl⟩, ⟨rfl, rfl⟩, ⟨Nat.le_of_ble_eq_true rfl, Nat.le_of_ble_eq_true rfl⟩⟩) (trivial) rfl hl.1 rfl (Nat.le_of_ble_eq_true rfl) dX4_setPoint_8) ?_
    refine b_ifeq (tgt := 25) hC dX4_setPoint_11 (by decide) (fun zc11 => ?_) (fun zc11 => ?_)
    · refine lv_ldc (v := (-2000000001 : Int32)) hx hb hown (hts _ w_204) dX4_setPoint_25 ?_
      exact k_iretM hC hr hlk hS dX4_setPoint_27 (by first | exact sp_f (fun q => zc4 q.1) hXW | exact sp_f (fun q => zc11 q.2.1) hXW | exact sp_f (fun q => zc22 q.2.2) hXW)
    · refine lv_iload_n hx hb dX4_setPoint_14 rfl (lvG hl rfl) ?_
      refine lv_iconst (v := nI 0) hx hb dX4_setPoint_15 (by decide) ?_
      refine lv_sipush (v := nI 5000) hx hb dX4_setPoint_16 (by decide) ?_
      refine k_callPI (k_goS (rest := []) hC hK (c_X4_isWithin l g pr (nI 0) (nI 5000)) L_X4_X4_isWithin (⟨⟨Nat.le_of_ble_eq_true rfl, Nat.le_of_ble_eq_true rfl⟩, ⟨rfl, rfl⟩, ⟨Nat.le_of_ble_eq_true rfl, Nat.le_of_ble_eq_true rfl⟩⟩) (trivial) rfl hl.1 rfl (Nat.le_of_ble_eq_true rfl) dX4_setPoint_19) ?_
      refine b_ifne (tgt := 28) hC dX4_setPoint_22 (by decide) (fun zc22 => ?_) (fun zc22 => ?_)
      · rcases (hB).1 with zb | zb
        · refine lv_aload_n hx hb dX4_setPoint_28 rfl (lvG hl rfl) ?_
          refine va_get (D := g.1) (ci := 4) (v := .ref (a 0)) (C := RX4) (T := TX4) (N := 7) hx hb hts i_X4 hown hK.1 hM 0 rfl rfl 0 (by decide) (hts _ w_175) (fun _ h9 => h9) rfl dX4_setPoint_29 ?_
          refine va_get (D := g.1) (ci := 3) (v := .ref (a 3)) (C := RX3) (T := TX3) (N := 13) hx hb hts i_X3 hown hK.1 hM 2 rfl rfl 10 (by decide) (hts _ w_142) (fun _ h9 => h9) rfl dX4_setPoint_32 ?_
          refine va_get (D := g.1) (ci := 1) (v := .int (f 16)) (C := RX1) (T := TX1) (N := 5) hx hb hts i_X1 hown hK.1 hM 6 rfl rfl 0 (by decide) (hts _ w_100) (fun _ h9 => h9) rfl dX4_setPoint_35 ?_
          rw [zb]
          refine n_if_ne (tgt := 44) hC dX4_setPoint_38 (by decide) (by decide) (fun c => absurd c (by decide)) (fun _ => ?_)
          refine lv_ldc (v := (-2000000002 : Int32)) hx hb hown (hts _ w_267) dX4_setPoint_41 ?_
          exact k_iretM hC hr hlk hS dX4_setPoint_43 (sp_i ⟨zc4, zc11, zc22⟩ zb hXW)
        · refine lv_aload_n hx hb dX4_setPoint_28 rfl (lvG hl rfl) ?_
          refine va_get (D := g.1) (ci := 4) (v := .ref (a 0)) (C := RX4) (T := TX4) (N := 7) hx hb hts i_X4 hown hK.1 hM 0 rfl rfl 0 (by decide) (hts _ w_175) (fun _ h9 => h9) rfl dX4_setPoint_29 ?_
          refine va_get (D := g.1) (ci := 3) (v := .ref (a 3)) (C := RX3) (T := TX3) (N := 13) hx hb hts i_X3 hown hK.1 hM 2 rfl rfl 10 (by decide) (hts _ w_142) (fun _ h9 => h9) rfl dX4_setPoint_32 ?_
          refine va_get (D := g.1) (ci := 1) (v := .int (f 16)) (C := RX1) (T := TX1) (N := 5) hx hb hts i_X1 hown hK.1 hM 6 rfl rfl 0 (by decide) (hts _ w_100) (fun _ h9 => h9) rfl dX4_setPoint_35 ?_
          rw [zb]
          refine n_if_ne (tgt := 44) hC dX4_setPoint_38 (by decide) (by decide) (fun _ => ?_) (fun c => absurd c (by decide))
          refine lv_aload_n hx hb dX4_setPoint_44 rfl (lvG hl rfl) ?_
          refine k_callMV0 (k_goV (rest := []) hC hK (c_X4_recordState l g x a M f n) L_X4_X4_recordState (⟨⟨Nat.le_of_ble_eq_true rfl, Nat.le_of_ble_eq_true rfl⟩, ⟨rfl, rfl⟩, ⟨Nat.le_of_ble_eq_true rfl, Nat.le_of_ble_eq_true rfl⟩⟩) (k_recv hK hM 0 rfl rfl) (hXW) rfl hl.1 rfl (Nat.le_of_ble_eq_true rfl) dX4_setPoint_45) hS (fun _ h => h) (fun H_1 locs_2 hQ_3 hz_ hk_5 hS_4 => ?_)
          obtain ⟨f6, ef6⟩ : ∃ z, z = s_rec f n := ⟨_, rfl⟩
          rw [← ef6] at hQ_3
          obtain ⟨hn6, hm6, hx06, d6, r6, hs6, w06, hM6, hD6, hR6, hB6⟩ := hQ_3
          obtain ⟨ws6, ews6⟩ := hR6.trial
          subst ews6
          have hXW6 := XW.mk hn6 hm6 hx06 hM6 hD6 hR6 hB6
          have hF6 : KF M H_1 H_1 := KF.rf
          obtain ⟨zj, h_zj, ev_zj⟩ := in_nat (by decide) (zc4)
          have e_zj : (st).toNatClampNeg = zj := by rw [ev_zj]; exact nI_clamp (by omega)
          have hl : lv_has ls 5 [(0, .ref (x 0)), (1, .int (nI zj)), (2, .int (sa)), (3, .int (pr))] := lv_eq hl (by rw [ev_zj])
          have h16 : f6 16 = nI 1 := by rw [ef6, s_rec_lo _ _ (by omega), zb]
          have hP16 : ∀ k, k < 42 → 0 ≤ (f6 (19 + k)).toInt := fun k hk => by rw [ef6, s_rec_lo _ _ (by omega)]; exact hPt k hk
          obtain ⟨zk, h_zk, ev_zk⟩ := in_nat (by decide) (zc11)
          have e_zk : (sa).toNatClampNeg = zk := by rw [ev_zk]; exact nI_clamp (by omega)
          have hl : lv_has ls 5 [(0, .ref (x 0)), (1, .int (nI zj)), (2, .int (nI zk)), (3, .int (pr))] := lv_eq hl (by rw [ev_zk])
          rcases (show zj = 0 ∨ zj = 1 by omega) with z0 | z0
          · have hl : lv_has ls 5 [(0, .ref (x 0)), (1, .int (nI 0)), (2, .int (nI zk)), (3, .int (pr))] := lv_eq hl (by rw [z0])
            refine lv_aload_n hx hb dX4_setPoint_48 rfl (lvG hl rfl) ?_
            refine va_get (D := g.1) (ci := 4) (v := .ref (a 0)) (C := RX4) (T := TX4) (N := 7) hx hb hts i_X4 hown hK.1 hM6 0 rfl rfl 0 (by decide) (hts _ w_175) (fun _ h9 => h9) rfl dX4_setPoint_49 ?_
            refine va_get (D := g.1) (ci := 3) (v := .ref (a 3)) (C := RX3) (T := TX3) (N := 13) hx hb hts i_X3 hown hK.1 hM6 2 rfl rfl 10 (by decide) (hts _ w_142) (fun _ h9 => h9) rfl dX4_setPoint_52 ?_
            refine lv_iload_n hx hb dX4_setPoint_55 rfl (lvG hl rfl) ?_
            refine k_callPR (k_goV (rest := []) hC hK (c_X1_pointsOf l g a (f6 16) (f6 17) (f6 18) (nI 0)) L_X4_X1_pointsOf (⟨⟨Nat.le_of_ble_eq_true rfl, Nat.le_of_ble_eq_true rfl⟩, ⟨rfl, rfl⟩, ⟨Nat.le_of_ble_eq_true rfl, Nat.le_of_ble_eq_true rfl⟩⟩) (k_recv hK hM6 6 rfl rfl) ((va_P.sub hM6 [6] rfl)) rfl hl.1 rfl (Nat.le_of_ble_eq_true rfl) dX4_setPoint_56) ?_
            rw [if_pos (show nI 0 = nI 0 from rfl)]
            refine lv_astore (lv' := [(4, .ref (a 4)), (0, .ref (x 0)), (1, .int (nI 0)), (2, .int (nI zk)), (3, .int (pr))]) hx hb dX4_setPoint_59 hl (by decide) rfl (fun ls hl => ?_)
            refine lv_aload hx hb dX4_setPoint_61 (lvG hl rfl) ?_
            refine lv_iload_n hx hb dX4_setPoint_63 rfl (lvG hl rfl) ?_
            refine lv_iload_n hx hb dX4_setPoint_64 rfl (lvG hl rfl) ?_
            refine k_astO (k := zk) (v := pr) hC hK hM6 hD6 hS_4 7 rfl (by omega) (by decide) dX4_setPoint_65 (fun H_7 locs_8 hP_9 hD_10 hS_11 hz_12 hk_13 => ?_)
            have hP_9 : va_P g.1 kCl ([(x 0, .inr (4, [.ref (a 0), .ref (x 1), .int (nI (s_recn n)), .ref (x 2), .ref (x 5), .ref (x 6), .ref (x 7)])), (x 1, .inl (g.2.2.2, 4, .inr (.inr (.inr (.inr hs6))))), (a 0, .inr (3, [.int (f6 0), .int (f6 1), .int (f6 2), .int (f6 3), .int (f6 4), .int (f6 5), .int (f6 6), .int (f6 7), .ref (a 1), .ref (a 2), .ref (a 3), .ref (a 6), .int (f6 61)])), (a 6, .inl (g.2.2.1, 10, .inr (.inr (.inr (.inr r6))))), (a 1, .inr (2, [.int (f6 8), .int (f6 9), .int (f6 10), .int (f6 11)])), (a 2, .inr (2, [.int (f6 12), .int (f6 13), .int (f6 14), .int (f6 15)])), (a 3, .inr (1, [.int (f6 16), .int (f6 17), .int (f6 18), .ref (a 4), .ref (a 5)])), cI g (a 4) 21 ((upd d6 zk pr)), cI g (a 5) 21 ((fun k => d6 (21 + k))), (x 2, .inr (0, [.int (nI 0), .int (nI 0), .ref (x 3), .ref (x 4)]))] ++ ws6) H_7 := hP_9
            have hD_10 : va_D (M) ([(x 0, .inr (4, [.ref (a 0), .ref (x 1), .int (nI (s_recn n)), .ref (x 2), .ref (x 5), .ref (x 6), .ref (x 7)])), (x 1, .inl (g.2.2.2, 4, .inr (.inr (.inr (.inr hs6))))), (a 0, .inr (3, [.int (f6 0), .int (f6 1), .int (f6 2), .int (f6 3), .int (f6 4), .int (f6 5), .int (f6 6), .int (f6 7), .ref (a 1), .ref (a 2), .ref (a 3), .ref (a 6), .int (f6 61)])), (a 6, .inl (g.2.2.1, 10, .inr (.inr (.inr (.inr r6))))), (a 1, .inr (2, [.int (f6 8), .int (f6 9), .int (f6 10), .int (f6 11)])), (a 2, .inr (2, [.int (f6 12), .int (f6 13), .int (f6 14), .int (f6 15)])), (a 3, .inr (1, [.int (f6 16), .int (f6 17), .int (f6 18), .ref (a 4), .ref (a 5)])), cI g (a 4) 21 ((upd d6 zk pr)), cI g (a 5) 21 ((fun k => d6 (21 + k))), (x 2, .inr (0, [.int (nI 0), .int (nI 0), .ref (x 3), .ref (x 4)]))] ++ ws6) := hD_10
            have hF_14 := KF.put hF6 hz_12 hk_13 (hD_10.2 7 _ rfl)
            refine lv_aload hx hb dX4_setPoint_66 (lvG hl rfl) ?_
            refine k_callPI (k_goS (rest := []) hC hK (c_X4_countPoints l g (a 4) ((upd d6 zk pr))) L_X4_X4_countPoints (⟨⟨Nat.le_of_ble_eq_true rfl, Nat.le_of_ble_eq_true rfl⟩, ⟨rfl, rfl⟩, ⟨Nat.le_of_ble_eq_true rfl, Nat.le_of_ble_eq_true rfl⟩⟩) ((va_P.sub hP_9 [7] rfl)) rfl hl.1 rfl (Nat.le_of_ble_eq_true rfl) dX4_setPoint_68) ?_
            exact k_iretM hC hr hlk hS_11 dX4_setPoint_71 ((by first | exact sp_t ⟨zc4, zc11, zc22⟩ zb (by rw [e_zj, z0]) e_zk ef6 (sp_ct (fun t ht => by have := hB6.2.1 h16 (t) (by omega); rw [show 19 + 21 * 0 + t = 19 + (t) by omega]; exact this) (fun t ht => by rw [show 19 + 21 * 0 + t = 19 + (t) by omega]; exact hP16 _ (by omega)) (pr_1 zc22).1) (XW.close (f' := s_spU f6 0 zk pr) (ws := cTr x :: ws6) (d' := upd d6 (21 * 0 + zk) pr) (r' := r6) hXW6 (sp_P0 (by omega) hP_9) (va_Dre hD_10 rfl) hR6 hF_14.2 (fun j h1 h2 => spU_e (by decide) (by omega) pr j (Or.inr (by omega))) (sp_B (by decide) (by omega) h16 (hB6.kept (fun q h c => hF_14.2 q h (fun z => c (Or.inl z)))))) | exact sp_t ⟨zc4, zc11, zc22⟩ zb (by rw [e_zj, z0]) e_zk ef6 (sp_ct (fun t ht => by have := hB6.2.1 h16 (21 + t) (by omega); rw [show 19 + 21 * 1 + t = 19 + (21 + t) by omega]; exact this) (fun t ht => by rw [show 19 + 21 * 1 + t = 19 + (21 + t) by omega]; exact hP16 _ (by omega)) (pr_1 zc22).1) (XW.close (f' := s_spU f6 1 zk pr) (ws := cTr x :: ws6) (d' := upd d6 (21 * 1 + zk) pr) (r' := r6) hXW6 (sp_P1 (by omega) hP_9) (va_Dre hD_10 rfl) hR6 hF_14.2 (fun j h1 h2 => spU_e (by decide) (by omega) pr j (Or.inr (by omega))) (sp_B (by decide) (by omega) h16 (hB6.kept (fun q h c => hF_14.2 q h (fun z => c (Or.inl z))))))))
          · have hl : lv_has ls 5 [(0, .ref (x 0)), (1, .int (nI 1)), (2, .int (nI zk)), (3, .int (pr))] := lv_eq hl (by rw [z0])
            refine lv_aload_n hx hb dX4_setPoint_48 rfl (lvG hl rfl) ?_
            refine va_get (D := g.1) (ci := 4) (v := .ref (a 0)) (C := RX4) (T := TX4) (N := 7) hx hb hts i_X4 hown hK.1 hM6 0 rfl rfl 0 (by decide) (hts _ w_175) (fun _ h9 => h9) rfl dX4_setPoint_49 ?_
            refine va_get (D := g.1) (ci := 3) (v := .ref (a 3)) (C := RX3) (T := TX3) (N := 13) hx hb hts i_X3 hown hK.1 hM6 2 rfl rfl 10 (by decide) (hts _ w_142) (fun _ h9 => h9) rfl dX4_setPoint_52 ?_
            refine lv_iload_n hx hb dX4_setPoint_55 rfl (lvG hl rfl) ?_
            refine k_callPR (k_goV (rest := []) hC hK (c_X1_pointsOf l g a (f6 16) (f6 17) (f6 18) (nI 1)) L_X4_X1_pointsOf (⟨⟨Nat.le_of_ble_eq_true rfl, Nat.le_of_ble_eq_true rfl⟩, ⟨rfl, rfl⟩, ⟨Nat.le_of_ble_eq_true rfl, Nat.le_of_ble_eq_true rfl⟩⟩) (k_recv hK hM6 6 rfl rfl) ((va_P.sub hM6 [6] rfl)) rfl hl.1 rfl (Nat.le_of_ble_eq_true rfl) dX4_setPoint_56) ?_
            rw [if_neg (show ¬ nI 1 = nI 0 by decide)]
            refine lv_astore (lv' := [(4, .ref (a 5)), (0, .ref (x 0)), (1, .int (nI 1)), (2, .int (nI zk)), (3, .int (pr))]) hx hb dX4_setPoint_59 hl (by decide) rfl (fun ls hl => ?_)
            refine lv_aload hx hb dX4_setPoint_61 (lvG hl rfl) ?_
            refine lv_iload_n hx hb dX4_setPoint_63 rfl (lvG hl rfl) ?_
            refine lv_iload_n hx hb dX4_setPoint_64 rfl (lvG hl rfl) ?_
            refine k_astO (k := zk) (v := pr) hC hK hM6 hD6 hS_4 8 rfl (by omega) (by decide) dX4_setPoint_65 (fun H_15 locs_16 hP_17 hD_18 hS_19 hz_20 hk_21 => ?_)
            have hP_17 : va_P g.1 kCl ([(x 0, .inr (4, [.ref (a 0), .ref (x 1), .int (nI (s_recn n)), .ref (x 2), .ref (x 5), .ref (x 6), .ref (x 7)])), (x 1, .inl (g.2.2.2, 4, .inr (.inr (.inr (.inr hs6))))), (a 0, .inr (3, [.int (f6 0), .int (f6 1), .int (f6 2), .int (f6 3), .int (f6 4), .int (f6 5), .int (f6 6), .int (f6 7), .ref (a 1), .ref (a 2), .ref (a 3), .ref (a 6), .int (f6 61)])), (a 6, .inl (g.2.2.1, 10, .inr (.inr (.inr (.inr r6))))), (a 1, .inr (2, [.int (f6 8), .int (f6 9), .int (f6 10), .int (f6 11)])), (a 2, .inr (2, [.int (f6 12), .int (f6 13), .int (f6 14), .int (f6 15)])), (a 3, .inr (1, [.int (f6 16), .int (f6 17), .int (f6 18), .ref (a 4), .ref (a 5)])), cI g (a 4) 21 d6, cI g (a 5) 21 ((upd ((fun k => d6 (21 + k))) zk pr)), (x 2, .inr (0, [.int (nI 0), .int (nI 0), .ref (x 3), .ref (x 4)]))] ++ ws6) H_15 := hP_17
            have hD_18 : va_D (M) ([(x 0, .inr (4, [.ref (a 0), .ref (x 1), .int (nI (s_recn n)), .ref (x 2), .ref (x 5), .ref (x 6), .ref (x 7)])), (x 1, .inl (g.2.2.2, 4, .inr (.inr (.inr (.inr hs6))))), (a 0, .inr (3, [.int (f6 0), .int (f6 1), .int (f6 2), .int (f6 3), .int (f6 4), .int (f6 5), .int (f6 6), .int (f6 7), .ref (a 1), .ref (a 2), .ref (a 3), .ref (a 6), .int (f6 61)])), (a 6, .inl (g.2.2.1, 10, .inr (.inr (.inr (.inr r6))))), (a 1, .inr (2, [.int (f6 8), .int (f6 9), .int (f6 10), .int (f6 11)])), (a 2, .inr (2, [.int (f6 12), .int (f6 13), .int (f6 14), .int (f6 15)])), (a 3, .inr (1, [.int (f6 16), .int (f6 17), .int (f6 18), .ref (a 4), .ref (a 5)])), cI g (a 4) 21 d6, cI g (a 5) 21 ((upd ((fun k => d6 (21 + k))) zk pr)), (x 2, .inr (0, [.int (nI 0), .int (nI 0), .ref (x 3), .ref (x 4)]))] ++ ws6) := hD_18
            have hF_22 := KF.put hF6 hz_20 hk_21 (hD_18.2 8 _ rfl)
            refine lv_aload hx hb dX4_setPoint_66 (lvG hl rfl) ?_
            refine k_callPI (k_goS (rest := []) hC hK (c_X4_countPoints l g (a 5) ((upd ((fun k => d6 (21 + k))) zk pr))) L_X4_X4_countPoints (⟨⟨Nat.le_of_ble_eq_true rfl, Nat.le_of_ble_eq_true rfl⟩, ⟨rfl, rfl⟩, ⟨Nat.le_of_ble_eq_true rfl, Nat.le_of_ble_eq_true rfl⟩⟩) ((va_P.sub hP_17 [8] rfl)) rfl hl.1 rfl (Nat.le_of_ble_eq_true rfl) dX4_setPoint_68) ?_
            exact k_iretM hC hr hlk hS_19 dX4_setPoint_71 ((by first | exact sp_t ⟨zc4, zc11, zc22⟩ zb (by rw [e_zj, z0]) e_zk ef6 (sp_ct (fun t ht => by have := hB6.2.1 h16 (t) (by omega); rw [show 19 + 21 * 0 + t = 19 + (t) by omega]; exact this) (fun t ht => by rw [show 19 + 21 * 0 + t = 19 + (t) by omega]; exact hP16 _ (by omega)) (pr_1 zc22).1) (XW.close (f' := s_spU f6 0 zk pr) (ws := cTr x :: ws6) (d' := upd d6 (21 * 0 + zk) pr) (r' := r6) hXW6 (sp_P0 (by omega) hP_17) (va_Dre hD_18 rfl) hR6 hF_22.2 (fun j h1 h2 => spU_e (by decide) (by omega) pr j (Or.inr (by omega))) (sp_B (by decide) (by omega) h16 (hB6.kept (fun q h c => hF_22.2 q h (fun z => c (Or.inl z)))))) | exact sp_t ⟨zc4, zc11, zc22⟩ zb (by rw [e_zj, z0]) e_zk ef6 (sp_ct (fun t ht => by have := hB6.2.1 h16 (21 + t) (by omega); rw [show 19 + 21 * 1 + t = 19 + (21 + t) by omega]; exact this) (fun t ht => by rw [show 19 + 21 * 1 + t = 19 + (21 + t) by omega]; exact hP16 _ (by omega)) (pr_1 zc22).1) (XW.close (f' := s_spU f6 1 zk pr) (ws := cTr x :: ws6) (d' := upd d6 (21 * 1 + zk) pr) (r' := r6) hXW6 (sp_P1 (by omega) hP_17) (va_Dre hD_18 rfl) hR6 hF_22.2 (fun j h1 h2 => spU_e (by decide) (by omega) pr j (Or.inr (by omega))) (sp_B (by decide) (by omega) h16 (hB6.kept (fun q h c => hF_22.2 q h (fun z => c (Or.inl z))))))))
      · refine lv_ldc (v := (-2000000001 : Int32)) hx hb hown (hts _ w_204) dX4_setPoint_25 ?_
        exact k_iretM hC hr hlk hS dX4_setPoint_27 (by first | exact sp_f (fun q => zc4 q.1) hXW | exact sp_f (fun q => zc11 q.2.1) hXW | exact sp_f (fun q => zc22 q.2.2) hXW)
set_option maxHeartbeats 4000000 in
set_option maxRecDepth 100000 in
theorem c_X3_dropCard (l : Launch) (g : kG) (x : Nat → Nat) (a : Nat → Nat) (M : Nat → Prop) (f : Nat → Int32) (n : Nat) (cn : Nat) (hc : f 61 = nI cn) (hcn : cn ≤ 10) (j : Nat) (hj : j < cn) : MV l yX3_dropCard cX3_dropCard 3 none (rr 0 0) [.ref (a 0), .int (nI j)] ((XW g x a M f n)) g 0 0 (M) (fun H1 => XW g x a M (s_rmU f j cn) n H1) := by
  refine kOf (by decide) (Nat.le_of_ble_eq_true rfl) (fun p e s m below meth c ls hC hr hlk hin hK hP hl => ?_)
  have hx := hC.1
  have hb := hC.2.1
  have hml := hC.2.2.1
  have hown := hC.2.2.2.1
  have hts := hC.2.2.2.2
  have hl : lv_has ls 3 [(0, .ref (a 0)), (1, .int (nI j))] := hl
  have hXW := hP
  obtain ⟨hn4, hm, hx0, d, r, hs, w0, hM, hD, hR, hB⟩ := hXW
  obtain ⟨ws, ews⟩ := hR.trial
  subst ews
  have hXW : XW g x a M f n s.heap := XW.mk hn4 hm hx0 hM hD hR hB
  have hF : KF M s.heap s.heap := KF.rf
  have hS : va_S (M) s.heap s.heap [] := va_S.rf
  refine lv_iload_n hx hb dX3_dropCard_0 rfl (lvG hl rfl) ?_
  refine lv_iconst (v := nI 1) hx hb dX3_dropCard_1 (by decide) ?_
  refine n_iadd hC dX3_dropCard_2 ?_
  refine lv_istore_n (lv' := [(2, .int (nI (j + 1))), (0, .ref (a 0)), (1, .int (nI j))]) hx hb dX3_dropCard_3 rfl hl (by decide) rfl (fun ls hl => ?_)
  have key_1 : ∀ (k_2 : Nat) (zi : Nat) (R9 : Nat → Option Nat) (H9 : Heap) (locs9 : List Loc) (hM9 : va_P g.1 kCl ([(x 0, .inr (4, [.ref (a 0), .ref (x 1), .int (nI n), .ref (x 2), .ref (x 5), .ref (x 6), .ref (x 7)])), (x 1, .inl (g.2.2.2, 4, .inr (.inr (.inr (.inr hs))))), (a 0, .inr (3, [.int (f 0), .int (f 1), .int (f 2), .int (f 3), .int (f 4), .int (f 5), .int (f 6), .int (f 7), .ref (a 1), .ref (a 2), .ref (a 3), .ref (a 6), .int (f 61)])), (a 6, .inl (g.2.2.1, 10, .inr (.inr (.inr (.inr R9))))), (a 1, .inr (2, [.int (f 8), .int (f 9), .int (f 10), .int (f 11)])), (a 2, .inr (2, [.int (f 12), .int (f 13), .int (f 14), .int (f 15)])), (a 3, .inr (1, [.int (f 16), .int (f 17), .int (f 18), .ref (a 4), .ref (a 5)])), cI g (a 4) 21 d, cI g (a 5) 21 ((fun k => d (21 + k))), (x 2, .inr (0, [.int (nI 0), .int (nI 0), .ref (x 3), .ref (x 4)]))] ++ ws) H9) (hD9 : va_D (M) ([(x 0, .inr (4, [.ref (a 0), .ref (x 1), .int (nI n), .ref (x 2), .ref (x 5), .ref (x 6), .ref (x 7)])), (x 1, .inl (g.2.2.2, 4, .inr (.inr (.inr (.inr hs))))), (a 0, .inr (3, [.int (f 0), .int (f 1), .int (f 2), .int (f 3), .int (f 4), .int (f 5), .int (f 6), .int (f 7), .ref (a 1), .ref (a 2), .ref (a 3), .ref (a 6), .int (f 61)])), (a 6, .inl (g.2.2.1, 10, .inr (.inr (.inr (.inr R9))))), (a 1, .inr (2, [.int (f 8), .int (f 9), .int (f 10), .int (f 11)])), (a 2, .inr (2, [.int (f 12), .int (f 13), .int (f 14), .int (f 15)])), (a 3, .inr (1, [.int (f 16), .int (f 17), .int (f 18), .ref (a 4), .ref (a 5)])), cI g (a 4) 21 d, cI g (a 5) 21 ((fun k => d (21 + k))), (x 2, .inr (0, [.int (nI 0), .int (nI 0), .ref (x 3), .ref (x 4)]))] ++ ws)) (hS9 : va_S (M) s.heap H9 locs9) (hz : j + 1 ≤ zi ∧ zi ≤ cn) (hR9 : R9 = k_sh r j zi) (hk_k_2 : cn - zi < k_2) (ls : Array Slot) (hl : lv_has ls 3 [(2, .int (nI zi)), (0, .ref (a 0)), (1, .int (nI j))]), W p l e (rr 0 0) s m [.ref (a 0), .int (nI j)].toArray below meth c H9 locs9 0 0 (MQ below (qV (M) (fun H1 => XW g x a M (s_rmU f j cn) n H1)) [.ref (a 0), .int (nI j)].toArray s 0 0 (M)) (F0 m 4 ls ([])) := by
    intro k_2
    induction k_2 with
    | zero => intro zi R9 H9 locs9 hM9 hD9 hS9 hz hR9 hk_k_2 ls hl; exact absurd hk_k_2 (Nat.not_lt_zero _)
    | succ k_2 ih_3 =>
      intro zi R9 H9 locs9 hM9 hD9 hS9 hz hR9 hk_k_2 ls hl
      refine lv_iload_n hx hb dX3_dropCard_4 rfl (lvG hl rfl) ?_
      refine lv_aload_n hx hb dX3_dropCard_5 rfl (lvG hl rfl) ?_
      refine va_get (D := g.1) (ci := 3) (v := .int (f 61)) (C := RX3) (T := TX3) (N := 13) hx hb hts i_X3 hown hK.1 hM9 2 rfl rfl 12 (by decide) (hts _ w_145) (fun _ h9 => h9) rfl dX3_dropCard_6 ?_
      rw [hc]
      refine n_icmp_ge (tgt := 32) hC dX3_dropCard_9 (by omega) (by omega) (by decide) (fun zc9 => ?_) (fun zc9 => ?_)
      · refine lv_aload_n hx hb dX3_dropCard_32 rfl (lvG hl rfl) ?_
        refine lv_dup hx hb dX3_dropCard_33 rfl ?_
        refine va_get (D := g.1) (ci := 3) (v := .int (f 61)) (C := RX3) (T := TX3) (N := 13) hx hb hts i_X3 hown hK.1 hM9 2 rfl rfl 12 (by decide) (hts _ w_145) (fun _ h9 => h9) rfl dX3_dropCard_34 ?_
        rw [hc]
        refine lv_iconst (v := nI 1) hx hb dX3_dropCard_37 (by decide) ?_
        refine n_isub hC dX3_dropCard_38 (by omega) ?_
        refine k_putO (ci := 3) (v := .int (nI (cn - 1))) (ty := .int) (C := RX3) (T := TX3) (N := 13) hC hK i_X3 tyX3 tyX3_ok nmX3 hM9 hD9 hS9 2 rfl rfl 12 (by decide) w_145 (fun _ h9 => h9) rfl (by decide +kernel) rfl rfl (Nat.le_of_ble_eq_true rfl) dX3_dropCard_39 (fun H_4 locs_5 hP_6 hD_7 hS_8 hz_9 hk_10 => ?_)
        have hP_6 : va_P g.1 kCl ([(x 0, .inr (4, [.ref (a 0), .ref (x 1), .int (nI n), .ref (x 2), .ref (x 5), .ref (x 6), .ref (x 7)])), (x 1, .inl (g.2.2.2, 4, .inr (.inr (.inr (.inr hs))))), (a 0, .inr (3, [.int (f 0), .int (f 1), .int (f 2), .int (f 3), .int (f 4), .int (f 5), .int (f 6), .int (f 7), .ref (a 1), .ref (a 2), .ref (a 3), .ref (a 6), .int (nI (cn - 1))])), (a 6, .inl (g.2.2.1, 10, .inr (.inr (.inr (.inr R9))))), (a 1, .inr (2, [.int (f 8), .int (f 9), .int (f 10), .int (f 11)])), (a 2, .inr (2, [.int (f 12), .int (f 13), .int (f 14), .int (f 15)])), (a 3, .inr (1, [.int (f 16), .int (f 17), .int (f 18), .ref (a 4), .ref (a 5)])), cI g (a 4) 21 d, cI g (a 5) 21 ((fun k => d (21 + k))), (x 2, .inr (0, [.int (nI 0), .int (nI 0), .ref (x 3), .ref (x 4)]))] ++ ws) H_4 := hP_6
        have hD_7 : va_D (M) ([(x 0, .inr (4, [.ref (a 0), .ref (x 1), .int (nI n), .ref (x 2), .ref (x 5), .ref (x 6), .ref (x 7)])), (x 1, .inl (g.2.2.2, 4, .inr (.inr (.inr (.inr hs))))), (a 0, .inr (3, [.int (f 0), .int (f 1), .int (f 2), .int (f 3), .int (f 4), .int (f 5), .int (f 6), .int (f 7), .ref (a 1), .ref (a 2), .ref (a 3), .ref (a 6), .int (nI (cn - 1))])), (a 6, .inl (g.2.2.1, 10, .inr (.inr (.inr (.inr R9))))), (a 1, .inr (2, [.int (f 8), .int (f 9), .int (f 10), .int (f 11)])), (a 2, .inr (2, [.int (f 12), .int (f 13), .int (f 14), .int (f 15)])), (a 3, .inr (1, [.int (f 16), .int (f 17), .int (f 18), .ref (a 4), .ref (a 5)])), cI g (a 4) 21 d, cI g (a 5) 21 ((fun k => d (21 + k))), (x 2, .inr (0, [.int (nI 0), .int (nI 0), .ref (x 3), .ref (x 4)]))] ++ ws) := hD_7
        exact k_vretM hC hr hlk hS_8 dX3_dropCard_42 (XW.drop (ws := cTr x :: ws) hc hcn hj hXW hP_6 hD_7 hR hS_8.2.1 hB (by rw [hR9, show zi = cn by omega]))
      · obtain ⟨qj, ej, cj⟩ := hB.2.2.1 zi (by omega)
        obtain ⟨vsj, hvj⟩ := card_at cj (hM9 9 _ rfl) hS9.2.1
        refine lv_aload_n hx hb dX3_dropCard_12 rfl (lvG hl rfl) ?_
        refine va_get (D := g.1) (ci := 3) (v := .ref (a 6)) (C := RX3) (T := TX3) (N := 13) hx hb hts i_X3 hown hK.1 hM9 2 rfl rfl 11 (by decide) (hts _ w_143) (fun _ h9 => h9) rfl dX3_dropCard_13 ?_
        refine lv_iload_n hx hb dX3_dropCard_16 rfl (lvG hl rfl) ?_
        refine lv_iconst (v := nI 1) hx hb dX3_dropCard_17 (by decide) ?_
        refine n_isub hC dX3_dropCard_18 (by omega) ?_
        refine lv_aload_n hx hb dX3_dropCard_19 rfl (lvG hl rfl) ?_
        refine va_get (D := g.1) (ci := 3) (v := .ref (a 6)) (C := RX3) (T := TX3) (N := 13) hx hb hts i_X3 hown hK.1 hM9 2 rfl rfl 11 (by decide) (hts _ w_143) (fun _ h9 => h9) rfl dX3_dropCard_20 ?_
        refine lv_iload_n hx hb dX3_dropCard_23 rfl (lvG hl rfl) ?_
        refine q_ald (k := zi) (b := qj) hC hK hM9 3 rfl (by omega) (by decide) (by rw [hR9]; exact sh_at.trans ej) dX3_dropCard_24 ?_
        refine q_astO (k := zi - 1) hC hK hM9 hD9 hS9 3 rfl (hvj) (by omega) (by decide) dX3_dropCard_25 (fun H_11 locs_12 hP_13 hD_14 hS_15 hz_16 hk_17 => ?_)
        have hP_13 : va_P g.1 kCl ([(x 0, .inr (4, [.ref (a 0), .ref (x 1), .int (nI n), .ref (x 2), .ref (x 5), .ref (x 6), .ref (x 7)])), (x 1, .inl (g.2.2.2, 4, .inr (.inr (.inr (.inr hs))))), (a 0, .inr (3, [.int (f 0), .int (f 1), .int (f 2), .int (f 3), .int (f 4), .int (f 5), .int (f 6), .int (f 7), .ref (a 1), .ref (a 2), .ref (a 3), .ref (a 6), .int (f 61)])), (a 6, .inl (g.2.2.1, 10, .inr (.inr (.inr (.inr (va_up R9 (zi - 1) (some qj))))))), (a 1, .inr (2, [.int (f 8), .int (f 9), .int (f 10), .int (f 11)])), (a 2, .inr (2, [.int (f 12), .int (f 13), .int (f 14), .int (f 15)])), (a 3, .inr (1, [.int (f 16), .int (f 17), .int (f 18), .ref (a 4), .ref (a 5)])), cI g (a 4) 21 d, cI g (a 5) 21 ((fun k => d (21 + k))), (x 2, .inr (0, [.int (nI 0), .int (nI 0), .ref (x 3), .ref (x 4)]))] ++ ws) H_11 := hP_13
        have hD_14 : va_D (M) ([(x 0, .inr (4, [.ref (a 0), .ref (x 1), .int (nI n), .ref (x 2), .ref (x 5), .ref (x 6), .ref (x 7)])), (x 1, .inl (g.2.2.2, 4, .inr (.inr (.inr (.inr hs))))), (a 0, .inr (3, [.int (f 0), .int (f 1), .int (f 2), .int (f 3), .int (f 4), .int (f 5), .int (f 6), .int (f 7), .ref (a 1), .ref (a 2), .ref (a 3), .ref (a 6), .int (f 61)])), (a 6, .inl (g.2.2.1, 10, .inr (.inr (.inr (.inr (va_up R9 (zi - 1) (some qj))))))), (a 1, .inr (2, [.int (f 8), .int (f 9), .int (f 10), .int (f 11)])), (a 2, .inr (2, [.int (f 12), .int (f 13), .int (f 14), .int (f 15)])), (a 3, .inr (1, [.int (f 16), .int (f 17), .int (f 18), .ref (a 4), .ref (a 5)])), cI g (a 4) 21 d, cI g (a 5) 21 ((fun k => d (21 + k))), (x 2, .inr (0, [.int (nI 0), .int (nI 0), .ref (x 3), .ref (x 4)]))] ++ ws) := hD_14
        refine n_iinc (lv' := [(2, .int (nI (zi + 1))), (0, .ref (a 0)), (1, .int (nI j))]) hC dX3_dropCard_26 hl rfl (by decide) rfl (fun ls hl => ?_)
        refine lv_goto (tgt := 4) hx hb dX3_dropCard_29 (by decide) ?_
        exact ih_3 (zi + 1) (va_up R9 (zi - 1) (some qj)) _ _ hP_13 hD_14 hS_15 (by first | omega | assumption | rfl) (by rw [hR9]; exact sh_s (by omega) ej) (by omega) ls (lv_sub hl [0, 1, 2] rfl)
  exact key_1 ((cn - (j + 1)) + 1) (j + 1) r _ _ hM hD hS (by first | rfl | omega | assumption) ((sh_0 _ _).symm) (Nat.lt_succ_self _) ls (lv_sub hl [0, 1, 2] rfl)
set_option maxHeartbeats 4000000 in
set_option maxRecDepth 100000 in
theorem c_X4_addCard (l : Launch) (g : kG) (x : Nat → Nat) (a : Nat → Nat) (M : Nat → Prop) (f : Nat → Int32) (n : Nat) (cn : Nat) (hc : f 61 = nI cn) (hcn : cn < 10) (qc : Nat) (qo : Nat) (qi : Nat) (e0 : Int32) (sp : Int32) (p0 : Nat → Int32) : MI l yX4_addCard cX4_addCard 3 (some .int) (rr 0 0) [.ref (x 0), .ref qc] ((fun H => XW g x a M f n H ∧ va_P g.1 kCl (wC g qc qo qi e0 sp p0) H ∧ ¬ MU x M qc ∧ ¬ MU x M qo ∧ ¬ MU x M qi)) g 0 0 (M) (fun r H1 => r = nI cn ∧ XW g x a M (k_acU f cn e0 sp p0) n H1) := by
  refine kOf (by decide) (Nat.le_of_ble_eq_true rfl) (fun p e s m below meth c ls hC hr hlk hin hK hP hl => ?_)
  have hx := hC.1
  have hb := hC.2.1
  have hml := hC.2.2.1
  have hown := hC.2.2.2.1
  have hts := hC.2.2.2.2
  have hl : lv_has ls 3 [(0, .ref (x 0)), (1, .ref qc)] := hl
  obtain ⟨hXW, hCd⟩ := hP
  obtain ⟨hn4, hm, hx0, d, r, hs, w0, hM, hD, hR, hB⟩ := hXW
  obtain ⟨ws, ews⟩ := hR.trial
  subst ews
  have hXW : XW g x a M f n s.heap := XW.mk hn4 hm hx0 hM hD hR hB
  have hF : KF M s.heap s.heap := KF.rf
  have hS : va_S (M) s.heap s.heap [] := va_S.rf
  refine lv_aload_n hx hb dX4_addCard_0 rfl (lvG hl rfl) ?_
  refine va_get (D := g.1) (ci := 4) (v := .ref (a 0)) (C := RX4) (T := TX4) (N := 7) hx hb hts i_X4 hown hK.1 hM 0 rfl rfl 0 (by decide) (hts _ w_175) (fun _ h9 => h9) rfl dX4_addCard_1 ?_
  refine va_get (D := g.1) (ci := 3) (v := .int (f 61)) (C := RX3) (T := TX3) (N := 13) hx hb hts i_X3 hown hK.1 hM 2 rfl rfl 12 (by decide) (hts _ w_146) (fun _ h9 => h9) rfl dX4_addCard_4 ?_
  rw [hc]
  refine lv_istore_n (lv' := [(2, .int (nI cn)), (0, .ref (x 0)), (1, .ref qc)]) hx hb dX4_addCard_7 rfl hl (by decide) rfl (fun ls hl => ?_)
  refine lv_aload_n hx hb dX4_addCard_8 rfl (lvG hl rfl) ?_
  refine va_get (D := g.1) (ci := 4) (v := .ref (a 0)) (C := RX4) (T := TX4) (N := 7) hx hb hts i_X4 hown hK.1 hM 0 rfl rfl 0 (by decide) (hts _ w_175) (fun _ h9 => h9) rfl dX4_addCard_9 ?_
  refine va_get (D := g.1) (ci := 3) (v := .ref (a 6)) (C := RX3) (T := TX3) (N := 13) hx hb hts i_X3 hown hK.1 hM 2 rfl rfl 11 (by decide) (hts _ w_144) (fun _ h9 => h9) rfl dX4_addCard_12 ?_
  refine lv_iload_n hx hb dX4_addCard_15 rfl (lvG hl rfl) ?_
  refine lv_aload_n hx hb dX4_addCard_16 rfl (lvG hl rfl) ?_
  refine q_astO (k := cn) hC hK hM hD hS 3 rfl (hCd.1 0 _ rfl) (by omega) (by decide) dX4_addCard_17 (fun H_1 locs_2 hP_3 hD_4 hS_5 hz_6 hk_7 => ?_)
  have hP_3 : va_P g.1 kCl ([(x 0, .inr (4, [.ref (a 0), .ref (x 1), .int (nI n), .ref (x 2), .ref (x 5), .ref (x 6), .ref (x 7)])), (x 1, .inl (g.2.2.2, 4, .inr (.inr (.inr (.inr hs))))), (a 0, .inr (3, [.int (f 0), .int (f 1), .int (f 2), .int (f 3), .int (f 4), .int (f 5), .int (f 6), .int (f 7), .ref (a 1), .ref (a 2), .ref (a 3), .ref (a 6), .int (f 61)])), (a 6, .inl (g.2.2.1, 10, .inr (.inr (.inr (.inr (va_up r cn (some qc))))))), (a 1, .inr (2, [.int (f 8), .int (f 9), .int (f 10), .int (f 11)])), (a 2, .inr (2, [.int (f 12), .int (f 13), .int (f 14), .int (f 15)])), (a 3, .inr (1, [.int (f 16), .int (f 17), .int (f 18), .ref (a 4), .ref (a 5)])), cI g (a 4) 21 d, cI g (a 5) 21 ((fun k => d (21 + k))), (x 2, .inr (0, [.int (nI 0), .int (nI 0), .ref (x 3), .ref (x 4)]))] ++ ws) H_1 := hP_3
  have hD_4 : va_D (M) ([(x 0, .inr (4, [.ref (a 0), .ref (x 1), .int (nI n), .ref (x 2), .ref (x 5), .ref (x 6), .ref (x 7)])), (x 1, .inl (g.2.2.2, 4, .inr (.inr (.inr (.inr hs))))), (a 0, .inr (3, [.int (f 0), .int (f 1), .int (f 2), .int (f 3), .int (f 4), .int (f 5), .int (f 6), .int (f 7), .ref (a 1), .ref (a 2), .ref (a 3), .ref (a 6), .int (f 61)])), (a 6, .inl (g.2.2.1, 10, .inr (.inr (.inr (.inr (va_up r cn (some qc))))))), (a 1, .inr (2, [.int (f 8), .int (f 9), .int (f 10), .int (f 11)])), (a 2, .inr (2, [.int (f 12), .int (f 13), .int (f 14), .int (f 15)])), (a 3, .inr (1, [.int (f 16), .int (f 17), .int (f 18), .ref (a 4), .ref (a 5)])), cI g (a 4) 21 d, cI g (a 5) 21 ((fun k => d (21 + k))), (x 2, .inr (0, [.int (nI 0), .int (nI 0), .ref (x 3), .ref (x 4)]))] ++ ws) := hD_4
  have hF_8 := KF.put hF hz_6 hk_7 (hD_4.2 3 _ rfl)
  refine lv_aload_n hx hb dX4_addCard_18 rfl (lvG hl rfl) ?_
  refine va_get (D := g.1) (ci := 4) (v := .ref (a 0)) (C := RX4) (T := TX4) (N := 7) hx hb hts i_X4 hown hK.1 hP_3 0 rfl rfl 0 (by decide) (hts _ w_175) (fun _ h9 => h9) rfl dX4_addCard_19 ?_
  refine lv_iload_n hx hb dX4_addCard_22 rfl (lvG hl rfl) ?_
  refine lv_iconst (v := nI 1) hx hb dX4_addCard_23 (by decide) ?_
  refine n_iadd hC dX4_addCard_24 ?_
  refine k_putO (ci := 3) (v := .int (nI (cn + 1))) (ty := .int) (C := RX3) (T := TX3) (N := 13) hC hK i_X3 tyX3 tyX3_ok nmX3 hP_3 hD_4 hS_5 2 rfl rfl 12 (by decide) w_146 (fun _ h9 => h9) rfl (by decide +kernel) rfl rfl (Nat.le_of_ble_eq_true rfl) dX4_addCard_25 (fun H_9 locs_10 hP_11 hD_12 hS_13 hz_14 hk_15 => ?_)
  have hP_11 : va_P g.1 kCl ([(x 0, .inr (4, [.ref (a 0), .ref (x 1), .int (nI n), .ref (x 2), .ref (x 5), .ref (x 6), .ref (x 7)])), (x 1, .inl (g.2.2.2, 4, .inr (.inr (.inr (.inr hs))))), (a 0, .inr (3, [.int (f 0), .int (f 1), .int (f 2), .int (f 3), .int (f 4), .int (f 5), .int (f 6), .int (f 7), .ref (a 1), .ref (a 2), .ref (a 3), .ref (a 6), .int (nI (cn + 1))])), (a 6, .inl (g.2.2.1, 10, .inr (.inr (.inr (.inr (va_up r cn (some qc))))))), (a 1, .inr (2, [.int (f 8), .int (f 9), .int (f 10), .int (f 11)])), (a 2, .inr (2, [.int (f 12), .int (f 13), .int (f 14), .int (f 15)])), (a 3, .inr (1, [.int (f 16), .int (f 17), .int (f 18), .ref (a 4), .ref (a 5)])), cI g (a 4) 21 d, cI g (a 5) 21 ((fun k => d (21 + k))), (x 2, .inr (0, [.int (nI 0), .int (nI 0), .ref (x 3), .ref (x 4)]))] ++ ws) H_9 := hP_11
  have hD_12 : va_D (M) ([(x 0, .inr (4, [.ref (a 0), .ref (x 1), .int (nI n), .ref (x 2), .ref (x 5), .ref (x 6), .ref (x 7)])), (x 1, .inl (g.2.2.2, 4, .inr (.inr (.inr (.inr hs))))), (a 0, .inr (3, [.int (f 0), .int (f 1), .int (f 2), .int (f 3), .int (f 4), .int (f 5), .int (f 6), .int (f 7), .ref (a 1), .ref (a 2), .ref (a 3), .ref (a 6), .int (nI (cn + 1))])), (a 6, .inl (g.2.2.1, 10, .inr (.inr (.inr (.inr (va_up r cn (some qc))))))), (a 1, .inr (2, [.int (f 8), .int (f 9), .int (f 10), .int (f 11)])), (a 2, .inr (2, [.int (f 12), .int (f 13), .int (f 14), .int (f 15)])), (a 3, .inr (1, [.int (f 16), .int (f 17), .int (f 18), .ref (a 4), .ref (a 5)])), cI g (a 4) 21 d, cI g (a 5) 21 ((fun k => d (21 + k))), (x 2, .inr (0, [.int (nI 0), .int (nI 0), .ref (x 3), .ref (x 4)]))] ++ ws) := hD_12
  have hF_16 := KF.put hF_8 hz_14 hk_15 (hD_12.2 2 _ rfl)
  refine lv_iload_n hx hb dX4_addCard_28 rfl (lvG hl rfl) ?_
  exact k_iretM hC hr hlk hS_13 dX4_addCard_29 (⟨rfl, XW.add (ws := cTr x :: ws) hc hcn hXW hP_11 hD_12 hR hS_13.2.1 hB hCd.1 hCd.2.1 hCd.2.2.1 hCd.2.2.2⟩)
theorem rc_t {g : kG} {x a : Nat → Nat} {M : Nat → Prop} {f f1 f2 : Nat → Int32} {n cn j : Nat} {v : Int32} {H : Heap} (h : s_okC f v) (hj : v.toNatClampNeg = j) (ef : f1 = s_rec f n) (ef2 : f2 = s_rmU f1 j cn) (hX : XW g x a M f2 (s_recn n) H) : f2 61 = s_rcR f cn v ∧ XW g x a M (s_rcF f n cn v) (s_rcN f n v) H := by
  subst ef ef2
  unfold s_rcR s_rcF s_rcN
  rw [if_pos h, if_pos h, if_pos h, hj]
  exact ⟨rm_61, hX⟩
theorem rc_f {g : kG} {x a : Nat → Nat} {M : Nat → Prop} {f : Nat → Int32} {n cn : Nat} {v : Int32} {H : Heap} (h : ¬ s_okC f v) (hX : XW g x a M f n H) : cINV = s_rcR f cn v ∧ XW g x a M (s_rcF f n cn v) (s_rcN f n v) H := by
  unfold s_rcR s_rcF s_rcN
  rw [if_neg h, if_neg h, if_neg h]
  exact ⟨rfl, hX⟩
theorem L_X4_X3_dropCard : LnkV RX4 188 yX3_dropCard cX3_dropCard 3 none 1 := ⟨w_597, w_598, w_599, w_28, w_600, ⟨by decide +kernel, by decide +kernel⟩, by decide +kernel⟩
set_option maxHeartbeats 4000000 in
set_option maxRecDepth 100000 in
theorem c_X4_removeCard (l : Launch) (g : kG) (x : Nat → Nat) (a : Nat → Nat) (M : Nat → Prop) (f : Nat → Int32) (n : Nat) (cn : Nat) (hc : f 61 = nI cn) (hcn : cn ≤ 10) (v : Int32) : MI l yX4_removeCard cX4_removeCard 2 (some .int) (rr 4 103) [.ref (x 0), .int (v)] ((XW g x a M f n)) g 0 0 (M) (fun r H1 => r = s_rcR f cn v ∧ XW g x a M (s_rcF f n cn v) (s_rcN f n v) H1) := by
  refine kOf (by decide) (Nat.le_of_ble_eq_true rfl) (fun p e s m below meth c ls hC hr hlk hin hK hP hl => ?_)
  have hx := hC.1
  have hb := hC.2.1
  have hml := hC.2.2.1
  have hown := hC.2.2.2.1
  have hts := hC.2.2.2.2
  have hl : lv_has ls 2 [(0, .ref (x 0)), (1, .int (v))] := hl
  have hXW := hP
  obtain ⟨hn4, hm, hx0, d, r, hs, w0, hM, hD, hR, hB⟩ := hXW
  obtain ⟨ws, ews⟩ := hR.trial
  subst ews
  have hXW : XW g x a M f n s.heap := XW.mk hn4 hm hx0 hM hD hR hB
  have hF : KF M s.heap s.heap := KF.rf
  have hS : va_S (M) s.heap s.heap [] := va_S.rf
  refine lv_aload_n hx hb dX4_removeCard_0 rfl (lvG hl rfl) ?_
  refine lv_iload_n hx hb dX4_removeCard_1 rfl (lvG hl rfl) ?_
  refine k_callPI (k_goV (rest := []) hC hK (c_X4_isCard l g x a n f cn r hc hcn v) L_X4_X4_isCard (⟨⟨Nat.le_of_ble_eq_true rfl, Nat.le_of_ble_eq_true rfl⟩, ⟨rfl, rfl⟩, ⟨Nat.le_of_ble_eq_true rfl, Nat.le_of_ble_eq_true rfl⟩⟩) (k_recv hK hM 0 rfl rfl) ((XW.xb (ws := cTr x :: ws) hc hcn hm hM hD hR hB)) rfl hl.1 rfl (Nat.le_of_ble_eq_true rfl) dX4_removeCard_2) ?_
  refine b_ifne (tgt := 11) hC dX4_removeCard_5 (by decide) (fun zc5 => ?_) (fun zc5 => ?_)
  · refine lv_aload_n hx hb dX4_removeCard_11 rfl (lvG hl rfl) ?_
    refine k_callMV0 (k_goV (rest := []) hC hK (c_X4_recordState l g x a M f n) L_X4_X4_recordState (⟨⟨Nat.le_of_ble_eq_true rfl, Nat.le_of_ble_eq_true rfl⟩, ⟨rfl, rfl⟩, ⟨Nat.le_of_ble_eq_true rfl, Nat.le_of_ble_eq_true rfl⟩⟩) (k_recv hK hM 0 rfl rfl) (hXW) rfl hl.1 rfl (Nat.le_of_ble_eq_true rfl) dX4_removeCard_12) hS (fun _ h => h) (fun H_1 locs_2 hQ_3 hz_ hk_5 hS_4 => ?_)
    obtain ⟨f6, ef6⟩ : ∃ z, z = s_rec f n := ⟨_, rfl⟩
    rw [← ef6] at hQ_3
    obtain ⟨hn6, hm6, hx06, d6, r6, hs6, w06, hM6, hD6, hR6, hB6⟩ := hQ_3
    obtain ⟨ws6, ews6⟩ := hR6.trial
    subst ews6
    have hXW6 := XW.mk hn6 hm6 hx06 hM6 hD6 hR6 hB6
    have hF6 : KF M H_1 H_1 := KF.rf
    obtain ⟨zj, h_zj, ev_zj⟩ := in_card (v := v) hcn hc (zc5)
    have e_zj : (v).toNatClampNeg = zj := by rw [ev_zj]; exact nI_clamp (by omega)
    have hl : lv_has ls 2 [(0, .ref (x 0)), (1, .int (nI zj))] := lv_eq hl (by rw [ev_zj])
    refine lv_aload_n hx hb dX4_removeCard_15 rfl (lvG hl rfl) ?_
    refine va_get (D := g.1) (ci := 4) (v := .ref (a 0)) (C := RX4) (T := TX4) (N := 7) hx hb hts i_X4 hown hK.1 hM6 0 rfl rfl 0 (by decide) (hts _ w_175) (fun _ h9 => h9) rfl dX4_removeCard_16 ?_
    refine lv_iload_n hx hb dX4_removeCard_19 rfl (lvG hl rfl) ?_
    refine k_callMV0 (k_goV (rest := []) hC hK (c_X3_dropCard l g x a M f6 (s_recn n) (cn) (by rw [ef6, s_rec_lo _ _ (by omega), hc]) (hcn) zj (h_zj)) L_X4_X3_dropCard (⟨⟨Nat.le_of_ble_eq_true rfl, Nat.le_of_ble_eq_true rfl⟩, ⟨rfl, rfl⟩, ⟨Nat.le_of_ble_eq_true rfl, Nat.le_of_ble_eq_true rfl⟩⟩) (k_recv hK hM6 2 rfl rfl) (hXW6) rfl hl.1 rfl (Nat.le_of_ble_eq_true rfl) dX4_removeCard_20) hS_4 (fun _ h => h) (fun H_7 locs_8 hQ_9 hz_ hk_11 hS_10 => ?_)
    obtain ⟨f12, ef12⟩ : ∃ z, z = s_rmU f6 zj (cn) := ⟨_, rfl⟩
    rw [← ef12] at hQ_9
    obtain ⟨hn12, hm12, hx012, d12, r12, hs12, w012, hM12, hD12, hR12, hB12⟩ := hQ_9
    obtain ⟨ws12, ews12⟩ := hR12.trial
    subst ews12
    have hXW12 := XW.mk hn12 hm12 hx012 hM12 hD12 hR12 hB12
    have hF12 : KF M H_7 H_7 := KF.rf
    refine lv_aload_n hx hb dX4_removeCard_23 rfl (lvG hl rfl) ?_
    refine va_get (D := g.1) (ci := 4) (v := .ref (a 0)) (C := RX4) (T := TX4) (N := 7) hx hb hts i_X4 hown hK.1 hM12 0 rfl rfl 0 (by decide) (hts _ w_175) (fun _ h9 => h9) rfl dX4_removeCard_24 ?_
    refine va_get (D := g.1) (ci := 3) (v := .int (f12 61)) (C := RX3) (T := TX3) (N := 13) hx hb hts i_X3 hown hK.1 hM12 2 rfl rfl 12 (by decide) (hts _ w_146) (fun _ h9 => h9) rfl dX4_removeCard_27 ?_
    exact k_iretM hC hr hlk hS_10 dX4_removeCard_30 (rc_t zc5 e_zj ef6 ef12 hXW12)
  · refine lv_ldc (v := (-2000000001 : Int32)) hx hb hown (hts _ w_204) dX4_removeCard_8 ?_
    exact k_iretM hC hr hlk hS dX4_removeCard_10 (rc_f zc5 hXW)
