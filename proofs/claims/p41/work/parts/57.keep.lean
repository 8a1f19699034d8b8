/-! the ranges are kept -/
section KEEP
variable {f F p : Nat → Int32} {n cn j : Nat} {v en sp sh lk pct : Int32}
theorem recn_le (hn : n ≤ 4) : s_recn n ≤ 4 := by unfold s_recn; split <;> omega
theorem ini_GD : GD s_ini 0 := by
  refine ⟨⟨⟨⟨by decide, by decide⟩, ⟨by decide, by decide⟩, ⟨by decide, by decide⟩, ⟨by decide, by decide⟩, ⟨by decide, by decide⟩, ⟨by decide, by decide⟩, ⟨by decide, by decide⟩, ⟨by decide, by decide⟩⟩, ⟨⟨⟨by decide, by decide⟩, ⟨by decide, by decide⟩, ⟨by decide, by decide⟩, ⟨by decide, by decide⟩, by decide, by decide⟩, ⟨⟨by decide, by decide⟩, ⟨by decide, by decide⟩, ⟨by decide, by decide⟩, ⟨by decide, by decide⟩, by decide, by decide⟩⟩, ⟨⟨by decide, by decide⟩, ⟨by decide, by decide⟩, fun k hk => ?_⟩, 0, by decide, by decide, fun j hj => absurd hj (Nat.not_lt_zero _)⟩, fun b h1 h2 => by omega⟩
  have e : s_ini (19 + k) = 0 := by
    unfold s_ini s_inV s_in8
    simp only [upd]
    repeat rw [if_neg (by omega)]
  rw [e]
  exact ⟨by decide, by decide⟩
theorem GB.fld (h : GB F) {q : Nat} (hq : q < 8) (hv : GF (upd F q v)) : GB (upd F q v) := by
  obtain ⟨-, ⟨h2, h3⟩, h4, cn, hcn, hc, h5⟩ := h
  exact ⟨hv, ⟨h2.congr (fun j h1 hj => (upd_ne _ _ _ _ (by omega)).symm), h3.congr (fun j h1 hj => (upd_ne _ _ _ _ (by omega)).symm)⟩, h4.congr (fun j h1 hj => (upd_ne _ _ _ _ (by omega)).symm), cn, hcn, by rw [upd_ne _ _ _ _ (by omega)]; exact hc, GC.congr hcn h5 (fun j h1 hj => (upd_ne _ _ _ _ (by omega)).symm)⟩
theorem GF.u0 (h : GF F) (hv : iv 1 20 v) : GF (upd F 0 v) := by
  obtain ⟨a0, a1, a2, a3, a4, a5, a6, a7⟩ := h
  exact ⟨hv, a1, a2, a3, a4, a5, a6, a7⟩
theorem GF.u1 (h : GF F) (hv : iv 1 5000 v) : GF (upd F 1 v) := by
  obtain ⟨a0, a1, a2, a3, a4, a5, a6, a7⟩ := h
  exact ⟨a0, hv, a2, a3, a4, a5, a6, a7⟩
theorem GF.u2 (h : GF F) (hv : iv 1 5000 v) : GF (upd F 2 v) := by
  obtain ⟨a0, a1, a2, a3, a4, a5, a6, a7⟩ := h
  exact ⟨a0, a1, hv, a3, a4, a5, a6, a7⟩
theorem GF.u3 (h : GF F) (hv : iv 1 300 v) : GF (upd F 3 v) := by
  obtain ⟨a0, a1, a2, a3, a4, a5, a6, a7⟩ := h
  exact ⟨a0, a1, a2, hv, a4, a5, a6, a7⟩
theorem GF.u4 (h : GF F) (hv : iv 100 2000 v) : GF (upd F 4 v) := by
  obtain ⟨a0, a1, a2, a3, a4, a5, a6, a7⟩ := h
  exact ⟨a0, a1, a2, a3, hv, a5, a6, a7⟩
theorem GF.u5 (h : GF F) (hv : iv 10 99 v) : GF (upd F 5 v) := by
  obtain ⟨a0, a1, a2, a3, a4, a5, a6, a7⟩ := h
  exact ⟨a0, a1, a2, a3, a4, hv, a6, a7⟩
theorem GF.u67 {w : Int32} (h : GF F) (hv : iv 1 100 v) (hw : iv 1 50 w) : GF (upd (upd F 6 v) 7 w) := by
  obtain ⟨a0, a1, a2, a3, a4, a5, a6, a7⟩ := h
  exact ⟨a0, a1, a2, a3, a4, a5, hv, hw⟩
theorem GD.put {q : Nat} {P : Prop} [Decidable P] (hn : n ≤ 4) (h : GD f n) (hq : q < 8) (hv : P → ∀ F, GF F → GF (upd F q v)) : GD (s_putf f n q P v) (s_putn n P) := by
  unfold s_putf s_putn
  by_cases c : P
  · rw [if_pos c, if_pos c]
    have h2 := h.rec hn
    exact h2.now (recn_le hn) (h2.1.fld hq (hv c _ h2.1.1)) (fun j h1 _ => (upd_ne _ _ _ _ (by omega)).symm)
  · rw [if_neg c, if_neg c]; exact h
theorem GD.se {b t : Int32} (hn : n ≤ 4) (h : GD f n) : GD (s_seF f n b t) (s_seN n b t) := by
  unfold s_seF s_seN
  by_cases c : (nI 1 ≤ b ∧ b ≤ nI 100) ∧ (nI 1 ≤ t ∧ t ≤ nI 50)
  · rw [if_pos c, if_pos c]
    have h2 := h.rec hn
    have h3 := h2.1.1.u67 (iv_of c.1 (by decide) (by decide)) (iv_of c.2 (by decide) (by decide))
    obtain ⟨-, ⟨g2, g3⟩, g4, cn, hcn, hc, g5⟩ := h2.1
    refine h2.now (recn_le hn) ⟨h3, ⟨g2.congr (fun j h1 hj => ?_), g3.congr (fun j h1 hj => ?_)⟩, g4.congr (fun j h1 hj => ?_), cn, hcn, hc, GC.congr hcn g5 (fun j h1 hj => ?_)⟩ (fun j h1 _ => ?_)
    all_goals rw [upd_ne _ _ _ _ (by omega), upd_ne _ _ _ _ (by omega)]
  · rw [if_neg c, if_neg c]; exact h
theorem svU_out {a c r m : Int32} {k : Nat} (hk : k < 8 + 4 * j ∨ 12 + 4 * j ≤ k) : s_svU F j a c r m k = F k := by
  unfold s_svU
  rw [upd_ne _ _ _ _ (by omega), upd_ne _ _ _ _ (by omega), upd_ne _ _ _ _ (by omega), upd_ne _ _ _ _ (by omega)]
theorem svU_in {a c r m : Int32} : s_svU F j a c r m (8 + 4 * j) = a ∧ s_svU F j a c r m (8 + 4 * j + 1) = c ∧ s_svU F j a c r m (8 + 4 * j + 2) = r ∧ s_svU F j a c r m (8 + 4 * j + 3) = m := by
  unfold s_svU
  refine ⟨?_, ?_, ?_, ?_⟩
  · rw [upd_ne _ _ _ _ (by omega), upd_ne _ _ _ _ (by omega), upd_ne _ _ _ _ (by omega), upd_at]
  · rw [upd_ne _ _ _ _ (by omega), upd_ne _ _ _ _ (by omega), upd_at]
  · rw [upd_ne _ _ _ _ (by omega), upd_at]
  · rw [upd_at]
theorem GD.sv {a c r m : Int32} (hn : n ≤ 4) (h : GD f n) : GD (s_svF f n en a c r m) (s_svN n en a c r m) := by
  unfold s_svF s_svN
  by_cases hc : s_okV en a c r m
  · rw [if_pos hc, if_pos hc]
    obtain ⟨⟨he, ha, hcc, hr, hm⟩, l1, l2⟩ := hc
    obtain ⟨j, hj, ej⟩ := in_nat (n := 1) (by decide) he
    have ec : en.toNatClampNeg = j := by rw [ej]; exact nI_clamp (by omega)
    rw [ec]
    have h2 := h.rec hn
    obtain ⟨g1, ⟨g2, g3⟩, g4, cn, hcn, hc, g5⟩ := h2.1
    have hV : GV (s_svU (s_rec f n) j a c r m) (8 + 4 * j) := by
      obtain ⟨q1, q2, q3, q4⟩ := svU_in (F := s_rec f n) (j := j) (a := a) (c := c) (r := r) (m := m)
      unfold GV
      rw [q1, q2, q3, q4]
      exact ⟨iv_of ha (by decide) (by decide), iv_of hcc (by decide) (by decide), iv_of hr (by decide) (by decide), iv_of hm (by decide) (by decide), Int32.lt_iff_toInt_lt.mp l1, Int32.lt_iff_toInt_lt.mp l2⟩
    refine h2.now (recn_le hn) ⟨g1.congr (fun k hk => (svU_out (by omega)).symm), ?_, g4.congr (fun k h1 hk => (svU_out (by omega)).symm), cn, hcn, by rw [svU_out (by omega)]; exact hc, GC.congr hcn g5 (fun k h1 hk => (svU_out (by omega)).symm)⟩ (fun k h1 _ => (svU_out (by omega)).symm)
    rcases (show j = 0 ∨ j = 1 by omega) with q | q <;> subst q
    · exact ⟨hV, g3.congr (fun k h1 hk => (svU_out (by omega)).symm)⟩
    · exact ⟨g2.congr (fun k h1 hk => (svU_out (by omega)).symm), hV⟩
  · rw [if_neg hc, if_neg hc]; exact h
theorem GB.draft' {F' : Nat → Int32} (h : GB F) (hT : GT F') (e : ∀ k, k < 16 ∨ 61 ≤ k → F k = F' k) : GB F' := by
  obtain ⟨g1, ⟨g2, g3⟩, g4, cn, hcn, hc, g5⟩ := h
  exact ⟨g1.congr (fun k hk => e k (by omega)), ⟨g2.congr (fun k h1 hk => e k (by omega)), g3.congr (fun k h1 hk => e k (by omega))⟩, hT, cn, hcn, by rw [← e 61 (by omega)]; exact hc, GC.congr hcn g5 (fun k h1 hk => e k (by omega))⟩
theorem GD.bc (hn : n ≤ 4) (h : GD f n) : GD (s_bcF f n en sp) (s_bcN n en sp) := by
  unfold s_bcF s_bcN
  by_cases c : s_okB en sp
  · rw [if_pos c, if_pos c]
    have h2 := h.rec hn
    refine h2.now (recn_le hn) (h2.1.draft' ⟨?_, ?_, fun k hk => ?_⟩ (fun k hk => ?_)) (fun k h1 _ => (bcU_hi (by omega)).symm)
    · rw [bcU_17]; exact iv_of c.1 (by decide) (by decide)
    · rw [bcU_18]; exact iv_w (iv_of c.2 (by decide) (by decide)) (by decide) (by decide)
    · rw [bcU_pt hk]; exact ⟨by decide, by decide⟩
    · rcases hk with q | q
      · exact (bcU_lo q).symm
      · exact (bcU_hi q).symm
  · rw [if_neg c, if_neg c]; exact h
theorem GD.spt {st sa pr : Int32} (hn : n ≤ 4) (h : GD f n) : GD (s_spF f n st sa pr) (s_spN f n st sa pr) := by
  unfold s_spF s_spN
  by_cases c : s_okP st sa pr ∧ ¬ f 16 = nI 0
  · rw [if_pos c, if_pos c]
    obtain ⟨j, hj, ej⟩ := in_nat (n := 1) (by decide) c.1.1
    obtain ⟨k, hk, ek⟩ := in_nat (n := 20) (by decide) c.1.2.1
    rw [show st.toNatClampNeg = j by rw [ej]; exact nI_clamp (by omega), show sa.toNatClampNeg = k by rw [ek]; exact nI_clamp (by omega)]
    have h2 := h.rec hn
    obtain ⟨t1, t2, t3⟩ := h2.1.2.2.1
    refine h2.now (recn_le hn) (h2.1.draft' ⟨?_, ?_, fun i hi => ?_⟩ (fun i hi => (spU_e hj hk pr i (by omega)).symm)) (fun i h1 _ => (spU_e hj hk pr i (by omega)).symm)
    · rw [spU_e hj hk pr 17 (by omega)]; exact t1
    · rw [spU_e hj hk pr 18 (by omega)]; exact t2
    · unfold s_spU
      by_cases e : 19 + i = 19 + 21 * j + k
      · rw [e, upd_at]; exact pr_1 c.1.2.2
      · rw [upd_ne _ _ _ _ e]; exact t3 i hi
  · rw [if_neg c, if_neg c]; exact h
/-! cards -/
theorem GB.add {e0 : Int32} (h : GB F) (hc : F 61 = nI cn) (hcn : cn < 10) (he : iv 0 1 e0) (hs : iv 0 600 sp) (hp : ∀ t, t < 42 → iv 0 5000 (p t)) : GB (k_acU F cn e0 sp p) := by
  obtain ⟨g1, ⟨g2, g3⟩, g4, c2, hc2, hc3, g5⟩ := h
  have e2 : c2 = cn := (nI_eq (by omega) (by omega)).mp (hc3.symm.trans hc)
  subst e2
  refine ⟨g1.congr (fun k hk => (ac_lo (by omega) (by omega)).symm), ⟨g2.congr (fun k h1 hk => (ac_lo (by omega) (by omega)).symm), g3.congr (fun k h1 hk => (ac_lo (by omega) (by omega)).symm)⟩, g4.congr (fun k h1 hk => (ac_lo (by omega) (by omega)).symm), c2 + 1, by omega, ac_61, fun j hj => ?_⟩
  by_cases c : j = c2
  · subst c
    unfold GCc
    rw [ac_e, ac_s]
    exact ⟨he, hs, fun k hk => by rw [ac_p hk]; exact hp k hk⟩
  · obtain ⟨q1, q2, q3⟩ := g5 j (by omega)
    exact ⟨by rw [ac_lo (by omega) (by omega)]; exact q1, by rw [ac_lo (by omega) (by omega)]; exact q2, fun k hk => by rw [ac_lo (by omega) (by omega)]; exact q3 k hk⟩
theorem GB.rm (h : GB F) (hc : F 61 = nI cn) (hcn : cn ≤ 10) (hj : j < cn) : GB (s_rmU F j cn) := by
  obtain ⟨g1, ⟨g2, g3⟩, g4, c2, hc2, hc3, g5⟩ := h
  have e2 : c2 = cn := (nI_eq (by omega) (by omega)).mp (hc3.symm.trans hc)
  subst e2
  refine ⟨g1.congr (fun k hk => (rm_lo (by omega) (by omega)).symm), ⟨g2.congr (fun k h1 hk => (rm_lo (by omega) (by omega)).symm), g3.congr (fun k h1 hk => (rm_lo (by omega) (by omega)).symm)⟩, g4.congr (fun k h1 hk => (rm_lo (by omega) (by omega)).symm), c2 - 1, by omega, rm_61, fun i hi => ?_⟩
  by_cases c : i < j
  · obtain ⟨q1, q2, q3⟩ := g5 i (by omega)
    exact ⟨by rw [rm_lo (by omega) (by omega)]; exact q1, by rw [rm_lo (by omega) (by omega)]; exact q2, fun k hk => by rw [rm_lo (by omega) (by omega)]; exact q3 k hk⟩
  · obtain ⟨q1, q2, q3⟩ := g5 (i + 1) (by omega)
    refine ⟨?_, ?_, fun k hk => ?_⟩
    · rw [show s_rmU F j c2 (62 + 44 * i) = F (62 + 44 * (i + 1)) from rm_mid (t := 0) (by omega) (by omega) (by decide)]; exact q1
    · rw [rm_mid (by omega) (by omega) (by decide)]; exact q2
    · rw [show 62 + 44 * i + 2 + k = 62 + 44 * i + (2 + k) by omega, rm_mid (by omega) (by omega) (by omega), ← Nat.add_assoc]; exact q3 k hk
theorem GD.rc (hn : n ≤ 4) (h : GD f n) (hc : f 61 = nI cn) (hcn : cn ≤ 10) : GD (s_rcF f n cn v) (s_rcN f n v) := by
  unfold s_rcF s_rcN
  by_cases c : s_okC f v
  · rw [if_pos c, if_pos c]
    obtain ⟨j, hj, ej⟩ := in_card hcn hc c
    rw [show v.toNatClampNeg = j by rw [ej]; exact nI_clamp (by omega)]
    have h2 := h.rec hn
    exact h2.now (recn_le hn) (h2.1.rm (by rw [s_rec_lo _ _ (by omega)]; exact hc) hcn hj) (fun k h1 _ => (rm_hi hcn hj h1).symm)
  · rw [if_neg c, if_neg c]; exact h
theorem ro_in {md : Int32} : ∀ (y : Nat) (F : Nat → Int32) (ct rc : Nat), GB F → F 61 = nI ct → ct ≤ 10 → y ≤ ct → GB (s_ro en pct md y F ct rc).1 ∧ ∀ k, 502 ≤ k → (s_ro en pct md y F ct rc).1 k = F k
  | 0, F, ct, rc, h, _, _, _ => ⟨h, fun _ _ => rfl⟩
  | y + 1, F, ct, rc, h, hc, hct, hy => by
    by_cases c : s_out en pct md F y
    · rw [s_ro_t c]
      obtain ⟨a1, a2⟩ := ro_in y (s_rmU F y ct) (ct - 1) (rc + 1) (h.rm hc hct (by omega)) rm_61 (by omega) (by omega)
      exact ⟨a1, fun k hk => by rw [a2 k hk, rm_hi hct (by omega) hk]⟩
    · rw [s_ro_f c]
      exact ro_in y F ct rc h hc hct (by omega)
theorem GD.ro (hn : n ≤ 4) (h : GD f n) (hc : f 61 = nI cn) (hcn : cn ≤ 10) : GD (s_roF f n en pct cn) (s_roN f n en pct cn) := by
  unfold s_roF s_roN
  by_cases c : s_okO f en pct cn
  · rw [if_pos c, if_pos c]
    have h2 := h.rec hn
    obtain ⟨a1, a2⟩ := ro_in (en := en) (pct := pct) (md := s_mdn (s_rec f n) en cn) cn (s_rec f n) cn 0 h2.1 (by rw [s_rec_lo _ _ (by omega)]; exact hc) hcn (Nat.le_refl _)
    exact h2.now (recn_le hn) a1 (fun k h1 _ => (a2 k h1).symm)
  · rw [if_neg c, if_neg c]; exact h
/-! drawn through points -/
theorem dn_pt : ∀ m d, s_dn p m = d + 1 → ¬ p d = nI 0
  | 0, d, e => by unfold s_dn at e; omega
  | m + 1, d, e => by
    unfold s_dn at e
    by_cases c : p m = nI 0
    · rw [if_pos c] at e; exact dn_pt m d e
    · rw [if_neg c] at e
      rw [show d = m by omega]; exact c
theorem up_pt : ∀ m k u, s_up p m k = u → u < k + m → ¬ p u = nI 0
  | 0, k, u, e, h => by unfold s_up at e; omega
  | m + 1, k, u, e, h => by
    unfold s_up at e
    by_cases c : p k = nI 0
    · rw [if_pos c] at e; exact up_pt m (k + 1) u e (by omega)
    · rw [if_neg c] at e
      rw [← e]; exact c
theorem dn_0p : ∀ m, s_dn p m = 0 → ∀ k, k < m → p k = nI 0
  | 0, _, k, hk => absurd hk (Nat.not_lt_zero _)
  | m + 1, e, k, hk => by
    unfold s_dn at e
    by_cases q : p m = nI 0
    · rw [if_pos q] at e
      rcases Nat.lt_or_ge k m with c | c
      · exact dn_0p m e k c
      · rw [show k = m by omega]; exact q
    · rw [if_neg q] at e
      omega
theorem up_allp : ∀ m k, s_up p m k = k + m → ∀ i, k ≤ i → i < k + m → p i = nI 0
  | 0, k, _, i, h1, h2 => by omega
  | m + 1, k, e, i, h1, h2 => by
    unfold s_up at e
    by_cases q : p k = nI 0
    · rw [if_pos q] at e
      by_cases c : i = k
      · rw [c]; exact q
      · exact up_allp m (k + 1) (by omega) i (by omega) (by omega)
    · rw [if_neg q] at e
      omega
theorem cnt_0 : ∀ m, (∀ k, k < m → p k = nI 0) → s_cnt p m = 0
  | 0, _ => rfl
  | m + 1, e => by
    unfold s_cnt
    rw [cnt_0 m (fun k hk => e k (by omega)), e m (by omega), if_pos (Int32.le_refl _)]
theorem pt_in {x : Int32} (h : iv 0 5001 x) (hx : ¬ x = nI 0) : 1 ≤ x.toInt ∧ (x - nI 1).toInt = x.toInt - 1 := by
  obtain ⟨h1, h2⟩ := h
  have z0 : (nI 0).toInt = 0 := rfl
  have z1 : (nI 1).toInt = 1 := rfl
  have hne : ¬ x.toInt = 0 := fun q => hx (Int32.toInt_inj.mp (by rw [q, z0]))
  exact ⟨by omega, by rw [fb_subI (by omega) (by omega), z1]⟩
theorem dr_in {st : Nat} (hst : st ≤ 20) (hb : ∀ k, k < 21 → iv 0 5001 (p k)) (hc : ¬ s_cnt p 21 = 0) : iv 0 5000 (s_dr p st) := by
  have h1 := s_dn_le p (st + 1)
  have h2 := s_up_in p (21 - st) st
  have hne : ¬ (s_dn p (st + 1) = 0 ∧ s_up p (21 - st) st = 21) := fun q => hc (cnt_0 21 (fun k hk => by
    rcases Nat.lt_or_ge k (st + 1) with c | c
    · exact dn_0p (st + 1) q.1 k c
    · exact up_allp (21 - st) st (by omega) k (by omega) (by omega)))
  have hD := dn_pt (p := p) (st + 1)
  have hU := up_pt (p := p) (21 - st) st
  unfold s_dr
  generalize s_dn p (st + 1) = D at *
  generalize s_up p (21 - st) st = U at *
  unfold s_drw
  by_cases c1 : D = 0 ∨ 20 < U ∨ D = U + 1
  · rw [if_pos c1]
    by_cases c2 : D = 0
    · rw [if_pos c2]
      have h3 := pt_in (hb U (by omega)) (hU U rfl (by omega))
      have h4 := (hb U (by omega)).2
      unfold iv; omega
    · rw [if_neg c2]
      have h3 := pt_in (hb (D - 1) (by omega)) (hD (D - 1) (by omega))
      have h4 := (hb (D - 1) (by omega)).2
      unfold iv; omega
  · rw [if_neg c1]
    have h3 := pt_in (hb (D - 1) (by omega)) (hD (D - 1) (by omega))
    have h4 := (hb (D - 1) (by omega)).2
    have h5 := pt_in (hb U (by omega)) (hU U rfl (by omega))
    have h6 := (hb U (by omega)).2
    have f3 : (p U - p (D - 1)).toInt = (p U).toInt - (p (D - 1)).toInt := fb_subI (by omega) (by omega)
    have k1 : (nI (st - (D - 1))).toInt = ((st - (D - 1) : Nat) : Int) := nI_toInt (by omega)
    have k2 : (nI (U - (D - 1))).toInt = ((U - (D - 1) : Nat) : Int) := nI_toInt (by omega)
    have mb := mul_bd (a := (p U - p (D - 1)).toInt) (b := (nI (st - (D - 1))).toInt) (by omega) (by omega) (by omega) (by omega)
    have e1 : ((p U - p (D - 1)).toInt64 * (nI (st - (D - 1))).toInt64).toInt = (p U - p (D - 1)).toInt * (nI (st - (D - 1))).toInt := by rw [fb_mulL (by rw [t64, t64]; omega) (by rw [t64, t64]; omega), t64, t64]
    have e2 : (s_quo ((p U - p (D - 1)).toInt64 * (nI (st - (D - 1))).toInt64) (nI (U - (D - 1))).toInt64).toInt = ((p U).toInt - (p (D - 1)).toInt) * ((st - (D - 1) : Nat) : Int) / ((U - (D - 1) : Nat) : Int) := by
      rw [quo_d (by rw [t64]; omega), e1, t64, f3, k1, k2]
    have w := part_way (D := (p U).toInt - (p (D - 1)).toInt) (t := ((st - (D - 1) : Nat) : Int)) (T := ((U - (D - 1) : Nat) : Int)) (by omega) (by omega) (by omega)
    have e3 : ((s_quo ((p U - p (D - 1)).toInt64 * (nI (st - (D - 1))).toInt64) (nI (U - (D - 1))).toInt64).toInt32).toInt = ((p U).toInt - (p (D - 1)).toInt) * ((st - (D - 1) : Nat) : Int) / ((U - (D - 1) : Nat) : Int) := by
      rw [Int64.toInt_toInt32, e2]
      rcases Int.le_total 0 ((p U).toInt - (p (D - 1)).toInt) with q | q
      · have := w.1 q; exact fb_bmod (by omega) (by omega)
      · have := w.2 q; exact fb_bmod (by omega) (by omega)
    unfold iv
    rcases Int.le_total 0 ((p U).toInt - (p (D - 1)).toInt) with q | q
    · have := w.1 q
      rw [fb_addI (by rw [e3, h3.2]; omega) (by rw [e3, h3.2]; omega), e3, h3.2]
      omega
    · have := w.2 q
      rw [fb_addI (by rw [e3, h3.2]; omega) (by rw [e3, h3.2]; omega), e3, h3.2]
      omega
theorem fcD_in (hT : GT f) (ok : s_okF f) : ∀ t, t < 42 → iv 0 5000 (s_fcD f t) := fun t ht => by
  unfold s_fcD
  rcases (show t / 21 = 0 ∨ t / 21 = 1 by omega) with q | q <;> rw [q]
  · refine dr_in (by omega) (fun k hk => ?_) ok.2.1
    show iv 0 5001 (f (19 + 21 * 0 + k))
    rw [show 19 + 21 * 0 + k = 19 + k by omega]; exact hT.2.2 k (by omega)
  · refine dr_in (by omega) (fun k hk => ?_) ok.2.2
    show iv 0 5001 (f (19 + 21 * 1 + k))
    rw [show 19 + 21 * 1 + k = 19 + (21 + k) by omega]; exact hT.2.2 _ (by omega)
theorem GD.fc (hn : n ≤ 4) (h : GD f n) (hc : f 61 = nI cn) (hcn : cn ≤ 10) : GD (s_fcF f n cn) (s_fcN f n cn) := by
  unfold s_fcF s_fcN
  by_cases c : s_okF f ∧ ¬ cn = 10
  · rw [if_pos c, if_pos c]
    have h2 := h.rec hn
    have e0 : ∀ j, j < 2510 → upd (s_rec f n) 16 (nI 0) j = upd (s_fcG f n 42) 16 (nI 0) j := fun j hj => by
      by_cases q : j = 16
      · rw [q, upd_at, upd_at]
      · rw [upd_ne _ _ _ _ q, upd_ne _ _ _ _ q]
        unfold s_fcG
        rw [s_fl_out _ _ _ _ _ (by omega)]
    have e1 := acU_eq (F := upd (s_fcG f n 42) 16 (nI 0)) (F' := upd (s_rec f n) 16 (nI 0)) (p := s_fcD f) (cn := cn) (e0 := f 17) (sp := f 18) e0 (fun t ht => by
      rw [upd_ne _ _ _ _ (by omega)]
      unfold s_fcG
      rw [s_fl_in _ _ _ _ _ ht])
    have h3 : GB (upd (s_rec f n) 16 (nI 0)) := by
      refine h2.1.draft' ⟨?_, ?_, fun k hk => ?_⟩ (fun k hk => (upd_ne _ _ _ _ (by omega)).symm)
      · rw [upd_ne _ _ _ _ (by omega)]; exact h2.1.2.2.1.1
      · rw [upd_ne _ _ _ _ (by omega)]; exact h2.1.2.2.1.2.1
      · rw [upd_ne _ _ _ _ (by omega)]; exact h2.1.2.2.1.2.2 k hk
    have h4 : GB (k_acU (upd (s_rec f n) 16 (nI 0)) cn (f 17) (f 18) (s_fcD f)) := h3.add (by rw [upd_ne _ _ _ _ (by omega), s_rec_lo _ _ (by omega)]; exact hc) (by omega) h.1.2.2.1.1 h.1.2.2.1.2.1 (fcD_in h.1.2.2.1 c.1)
    have h5 : GD (k_acU (upd (s_rec f n) 16 (nI 0)) cn (f 17) (f 18) (s_fcD f)) (s_recn n) := h2.now (recn_le hn) h4 (fun k h1 _ => by rw [ac_hi (by omega) h1, upd_ne _ _ _ _ (by omega)])
    exact h5.congr (recn_le hn) e1
  · rw [if_neg c, if_neg c]; exact h
/-! ideal cards added -/
theorem OE_sh (hV : GV f (8 + 4 * j)) (hok : s_okI en sp sh lk) (hex : s_exI f j sh) : OE (s_iv f j 0 + sh) (s_iv f j 1 + sh) (s_iv f j 2 + sh) ∧ iv 0 19 (s_iv f j 3 - sh) ∧ iv (-20) 20 lk := by
  obtain ⟨-, -, hsh, hlk⟩ := hok
  have m3 : ((-3 : Int32)).toInt = -3 := by decide
  have m20 : ((-20 : Int32)).toInt = -20 := by decide
  have p3 : (nI 3).toInt = 3 := rfl
  have p20 : (nI 20).toInt = 20 := rfl
  have a1 := Int32.le_iff_toInt_le.mp hsh.1
  have a2 := Int32.le_iff_toInt_le.mp hsh.2
  have b1 := Int32.le_iff_toInt_le.mp hlk.1
  have b2 := Int32.le_iff_toInt_le.mp hlk.2
  obtain ⟨⟨v1, v1b⟩, ⟨v2, v2b⟩, ⟨v3, v3b⟩, ⟨v4, v4b⟩, v5, v6⟩ := hV
  have e1 : (s_iv f j 0 + sh).toInt = (f (8 + 4 * j)).toInt + sh.toInt := fb_addI (x := f (8 + 4 * j)) (by omega) (by omega)
  have e2 : (s_iv f j 1 + sh).toInt = (f (8 + 4 * j + 1)).toInt + sh.toInt := fb_addI (x := f (8 + 4 * j + 1)) (by omega) (by omega)
  have e3 : (s_iv f j 2 + sh).toInt = (f (8 + 4 * j + 2)).toInt + sh.toInt := fb_addI (x := f (8 + 4 * j + 2)) (by omega) (by omega)
  exact ⟨⟨iv_of hex.1 (by decide) (by decide), iv_of hex.2.1 (by decide) (by decide), iv_of hex.2.2.1 (by decide) (by decide), by omega, by omega⟩, iv_of hex.2.2.2 (by decide) (by decide), by omega, by omega⟩
theorem ai_eq (hF : GF (s_rec f n)) (hV : GV f 8 ∧ GV f 12) : ∀ k, k < 2510 → k_aiF f n cn en sp sh lk k = s_aiF f n cn en sp sh lk k := fun k hk => by
  unfold k_aiF s_aiF
  by_cases c : s_aiP f cn en sp sh lk
  · rw [if_pos c, if_pos c]
    obtain ⟨j, hj, ej⟩ := in_nat (n := 1) (by decide) c.1.1
    have ec : en.toNatClampNeg = j := by rw [ej]; exact nI_clamp (by omega)
    have hex := c.2.1
    rw [ec] at hex ⊢
    have hVj : GV f (8 + 4 * j) := by
      rcases (show j = 0 ∨ j = 1 by omega) with q | q <;> subst q
      · exact hV.1
      · exact hV.2
    obtain ⟨hO, hm, hl⟩ := OE_sh hVj c.1 hex
    unfold k_aiU s_aiU
    refine acU_eq (fun i hi => by unfold s_drU; rw [s_dw_lo _ _ _ _ hi]) (fun t ht => ?_) k hk
    rw [s_drU_at _ _ _ _ _ _ ht]
    unfold k_p2 s_ip
    by_cases q : t < 21
    · rw [if_pos q, if_pos q]; exact (do_eq hF hO hl q).1
    · rw [if_neg q, if_neg q]; exact (di_eq hF hm (by omega)).1
  · rw [if_neg c, if_neg c]
theorem GD.ai (hn : n ≤ 4) (h : GD f n) (hc : f 61 = nI cn) (hcn : cn ≤ 10) : GD (s_aiF f n cn en sp sh lk) (s_aiN f n cn en sp sh lk) := by
  have h2 := h.rec hn
  have e := ai_eq (cn := cn) (en := en) (sp := sp) (sh := sh) (lk := lk) h2.1.1 h.1.2.1
  have key : GD (k_aiF f n cn en sp sh lk) (s_aiN f n cn en sp sh lk) := by
    unfold k_aiF s_aiN
    by_cases c : s_aiP f cn en sp sh lk
    · rw [if_pos c, if_pos c]
      obtain ⟨j, hj, ej⟩ := in_nat (n := 1) (by decide) c.1.1
      have ec : en.toNatClampNeg = j := by rw [ej]; exact nI_clamp (by omega)
      have hex := c.2.1
      rw [ec] at hex ⊢
      have hVj : GV f (8 + 4 * j) := by
        rcases (show j = 0 ∨ j = 1 by omega) with q | q <;> subst q
        · exact h.1.2.1.1
        · exact h.1.2.1.2
      obtain ⟨hO, hm, hl⟩ := OE_sh hVj c.1 hex
      have c9 := c.2.2
      unfold k_aiU
      refine h2.now (recn_le hn) (h2.1.add (by rw [s_rec_lo _ _ (by omega)]; exact hc) (by omega) (iv_of c.1.1 (by decide) (by decide)) (iv_w (iv_of c.1.2.1 (by decide) (by decide)) (by decide) (by decide)) (fun t ht => ?_)) (fun k h1 _ => (ac_hi (by omega) h1).symm)
      unfold k_p2
      by_cases q : t < 21
      · rw [if_pos q]; exact (do_eq h2.1.1 hO hl q).2
      · rw [if_neg q]; exact (di_eq h2.1.1 hm (by omega)).2
    · rw [if_neg c, if_neg c]; exact h
  refine key.congr ?_ e
  unfold s_aiN
  split
  · exact recn_le hn
  · exact hn
end KEEP
