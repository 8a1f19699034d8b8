/-! the law: what its own cells are, two cards by points, an ideal card -/
def LB (x : Nat → Nat) (M : Nat → Prop) (b0 top : Nat) : Prop := ∀ z, MU x M z → b0 ≤ z ∧ z < top
theorem MF.u {x : Nat → Nat} {M : Nat → Prop} {z : Nat} (h : MF x M z) : MU x M z := h.elim Or.inl (fun c => Or.inr (Or.inl c))
def LJS (g : kG) (x a : Nat → Nat) (M : Nat → Prop) (top : Nat) (f : Nat → Int32) (n : Nat) (H : Heap) : Prop := XW g x a M f n H ∧ GD f n ∧ top ≤ H.size
def PT (f : Nat → Int32) (j : Nat) : Prop := ∃ k, k < 21 ∧ ¬ f (19 + 21 * j + k) ≤ nI 0
def PTS (zk : Nat) (f : Nat → Int32) (zp : Nat) : Prop := f 16 = nI 1 ∧ f 61 = nI zk ∧ (1 ≤ zp → PT f 0) ∧ (2 ≤ zp → PT f 1)
section LF
variable {f F R p : Nat → Int32} {n cn N zk zp j k v : Nat}
theorem cnt_z : ∀ m, s_cnt p m = 0 → ∀ k, k < m → p k ≤ nI 0
  | 0, _, k, hk => absurd hk (Nat.not_lt_zero _)
  | m + 1, h, k, hk => by
    unfold s_cnt at h
    by_cases c : p m ≤ nI 0
    · by_cases e : k = m
      · rw [e]; exact c
      · exact cnt_z m (by omega) k (by omega)
    · rw [if_neg c] at h; omega
theorem PT.cnt (h : PT f j) : ¬ s_cnt (s_p01 f j) 21 = 0 := fun q => by
  obtain ⟨k, hk, h2⟩ := h
  exact h2 (cnt_z 21 q k hk)
theorem PT.put {a : Nat} {w : Int32} (h : PT f j) (hj : j ≤ 1) (hw : ¬ w ≤ nI 0) : PT (upd (s_rec f n) a w) j := by
  obtain ⟨k, hk, h2⟩ := h
  refine ⟨k, hk, ?_⟩
  by_cases c : 19 + 21 * j + k = a
  · rw [c, upd_at]; exact hw
  · rw [upd_ne _ _ _ _ c, s_rec_lo _ _ (by omega)]; exact h2
theorem bcv_f {j1 j2 : Nat} (h1 : j1 < 2) (h2 : j2 < 600) (hc : f 61 = nI zk) : PTS zk (s_bcF f n (nI j1) (nI (1 + j2))) 0 := by
  have hok : s_okB (nI j1) (nI (1 + j2)) := ⟨nI_rg (Nat.zero_le _) (by omega) (by decide), nI_rg (by omega) (by omega) (by decide)⟩
  unfold s_bcF
  rw [if_pos hok]
  refine ⟨?_, ?_, fun q => by omega, fun q => by omega⟩
  · unfold s_bcU
    rw [s_fl_out _ _ _ _ _ (by omega), upd_ne _ _ _ _ (by omega), upd_ne _ _ _ _ (by omega), upd_at]
  · rw [bcU_hi (by omega), s_rec_lo _ _ (by omega), hc]
theorem spv_f (hj : j < 2) (hk : k < 21) (hv : v < 3000) (h : ¬ f 16 = nI 0) : s_spF f n (nI j) (nI k) (nI v) = upd (s_rec f n) (19 + 21 * j + k) (nI (v + 1)) := by
  have hok : s_okP (nI j) (nI k) (nI v) := ⟨nI_rg (Nat.zero_le _) (by omega) (by decide), nI_rg (Nat.zero_le _) (by omega) (by decide), nI_rg (Nat.zero_le _) (by omega) (by decide)⟩
  unfold s_spF s_spU
  rw [if_pos ⟨hok, h⟩, nI_clamp (by omega), nI_clamp (by omega), nI_add]
theorem sp_pts (h : PTS zk f zp) (hk : k < 21) (hv : v < 3000) : PTS zk (s_spF f n (nI (zp % 2)) (nI k) (nI v)) (zp + 1) := by
  obtain ⟨h1, h2, h3, h4⟩ := h
  have hw : ¬ nI (v + 1) ≤ nI 0 := fun q => by
    have := (nI_leI (by omega) (by decide)).mp q
    omega
  rw [spv_f (Nat.mod_lt _ (by decide)) hk hv (by rw [h1]; decide)]
  have own : PT (upd (s_rec f n) (19 + 21 * (zp % 2) + k) (nI (v + 1))) (zp % 2) := ⟨k, hk, by rw [upd_at]; exact hw⟩
  have hm : zp % 2 < 2 := Nat.mod_lt _ (by decide)
  refine ⟨?_, ?_, fun q => ?_, fun q => ?_⟩
  · rw [upd_ne _ _ _ _ (by omega), s_rec_lo _ _ (by omega), h1]
  · rw [upd_ne _ _ _ _ (by omega), s_rec_lo _ _ (by omega), h2]
  · by_cases c : zp % 2 = 0
    · rw [c] at own ⊢; exact own
    · exact (h3 (by omega)).put (by decide) hw
  · by_cases c : zp % 2 = 1
    · rw [c] at own ⊢; exact own
    · exact (h4 (by omega)).put (by decide) hw
theorem fc_r (h : PTS zk f 6) (hz : zk ≤ 1) : s_fcR f zk = nI zk ∧ s_fcF f n zk 61 = nI (zk + 1) := by
  obtain ⟨h1, h2, h3, h4⟩ := h
  have hok : s_okF f := ⟨by rw [h1]; decide, (h3 (by decide)).cnt, (h4 (by decide)).cnt⟩
  unfold s_fcR s_fcF
  rw [if_pos hok, if_neg (by omega), if_pos ⟨hok, by omega⟩]
  refine ⟨rfl, ?_⟩
  unfold s_fcU s_acU
  exact upd_at _ _ _
/-! an ideal card as the valves are set: it is there, and its area is the ideal area -/
theorem iv_to {l u : Nat} {x : Int32} (h : iv l u x) (hl : l < 2 ^ 31) (hu : u < 2 ^ 31) : nI l ≤ x ∧ x ≤ nI u :=
  ⟨Int32.le_iff_toInt_le.mpr (by rw [nI_toInt hl]; exact h.1), Int32.le_iff_toInt_le.mpr (by rw [nI_toInt hu]; exact h.2)⟩
theorem aiv_P (hG : GB f) (hj : j ≤ 1) : s_okI (nI j) (nI 60) (nI 0) (nI 0) ∧ s_exI f j (nI 0) := by
  have a0 : ∀ z : Int32, z + nI 0 = z := fun z => Int32.add_zero z
  have s0 : ∀ z : Int32, z - nI 0 = z := fun z => Int32.sub_zero z
  have hV : GV f (8 + 4 * j) := by
    rcases (show j = 0 ∨ j = 1 by omega) with q | q <;> subst q
    · exact hG.2.1.1
    · exact hG.2.1.2
  obtain ⟨v1, v2, v3, v4, -, -⟩ := hV
  refine ⟨⟨nI_rg (Nat.zero_le _) hj (by decide), by decide, by decide, by decide⟩, ?_⟩
  show (nI 0 ≤ f (8 + 4 * j + 0) + nI 0 ∧ f (8 + 4 * j + 0) + nI 0 ≤ nI 8) ∧ (nI 1 ≤ f (8 + 4 * j + 1) + nI 0 ∧ f (8 + 4 * j + 1) + nI 0 ≤ nI 19) ∧ (nI 2 ≤ f (8 + 4 * j + 2) + nI 0 ∧ f (8 + 4 * j + 2) + nI 0 ≤ nI 20) ∧ (nI 0 ≤ f (8 + 4 * j + 3) - nI 0 ∧ f (8 + 4 * j + 3) - nI 0 ≤ nI 19)
  rw [a0, a0, a0, s0]
  exact ⟨iv_to (iv_w v1 (by decide) (by decide)) (by decide) (by decide), iv_to (iv_w v2 (by decide) (by decide)) (by decide) (by decide), iv_to v3 (by decide) (by decide), iv_to v4 (by decide) (by decide)⟩
theorem aiv_y (hG : GB f) (hj : j ≤ 1) (h : ¬ cn = 10) : s_aiR f cn (nI j) (nI 60) (nI 0) (nI 0) = nI cn ∧ k_aiF f n cn (nI j) (nI 60) (nI 0) (nI 0) = k_aiU f n cn j (nI j) (nI 60) (nI 0) (nI 0) ∧ s_aiN f n cn (nI j) (nI 60) (nI 0) (nI 0) = s_recn n := by
  obtain ⟨h1, h2⟩ := aiv_P hG hj
  have ej : (nI j).toNatClampNeg = j := nI_clamp (by omega)
  have h3 : s_exI f (nI j).toNatClampNeg (nI 0) := by rw [ej]; exact h2
  unfold s_aiR k_aiF s_aiN
  refine ⟨(if_pos h1).trans ((if_pos h3).trans (if_neg h)), (if_pos ⟨h1, h3, h⟩).trans (by rw [ej]), if_pos ⟨h1, h3, h⟩⟩
theorem aiv_x (hG : GB f) (hj : j ≤ 1) (h : cn = 10) : s_aiR f cn (nI j) (nI 60) (nI 0) (nI 0) = (-2000000003 : Int32) ∧ k_aiF f n cn (nI j) (nI 60) (nI 0) (nI 0) = f ∧ s_aiN f n cn (nI j) (nI 60) (nI 0) (nI 0) = n := by
  obtain ⟨h1, h2⟩ := aiv_P hG hj
  have ej : (nI j).toNatClampNeg = j := nI_clamp (by omega)
  have h3 : s_exI f (nI j).toNatClampNeg (nI 0) := by rw [ej]; exact h2
  unfold s_aiR k_aiF s_aiN
  refine ⟨(if_pos h1).trans ((if_pos h3).trans (if_pos h)), if_neg (fun q => q.2.2 h), if_neg (fun q => q.2.2 h)⟩
theorem dk_cg {vc vr lk : Int32} (e0 : f 0 = F 0) (e4 : f 4 = F 4) : ∀ j, k_dk f vc vr lk j = k_dk F vc vr lk j
  | 0 => by unfold k_dk; rw [e0, e4]
  | j + 1 => by
    have ih := dk_cg (vc := vc) (vr := vr) (lk := lk) e0 e4 j
    unfold k_dk
    rw [ih, e0]
theorem ic_area (hG : GB f) (hc : f 61 = nI cn) (hcn : cn ≤ 10) (hj : j ≤ 1) (h : ¬ cn = 10) : q_are (k_aiU f n cn j (nI j) (nI 60) (nI 0) (nI 0)) (nI cn) = q_iar (k_aiU f n cn j (nI j) (nI 60) (nI 0) (nI 0)) (nI j) := by
  have h61 : k_aiU f n cn j (nI j) (nI 60) (nI 0) (nI 0) 61 = nI (cn + 1) := by unfold k_aiU; exact ac_61
  rw [e_are h61 (by omega) (Nat.lt_succ_self _), e_iar hj]
  have a0 : ∀ z : Int32, z + nI 0 = z := fun z => Int32.add_zero z
  have s0 : ∀ z : Int32, z - nI 0 = z := fun z => Int32.sub_zero z
  have lo : ∀ i, i < 61 → k_aiU f n cn j (nI j) (nI 60) (nI 0) (nI 0) i = s_rec f n i := fun i hi => by unfold k_aiU; exact ac_lo (by omega) (by omega)
  have lof : ∀ i, i < 61 → s_rec f n i = f i := fun i hi => s_rec_lo _ _ (by omega)
  refine s_ar_eq 20 (Nat.le_refl _) (fun k hk => ?_)
  have e1 : s_pt (k_aiU f n cn j (nI j) (nI 60) (nI 0) (nI 0)) cn k = k_p2 (k_do (s_rec f n) (s_iv f j 0 + nI 0) (s_iv f j 1 + nI 0) (s_iv f j 2 + nI 0) (nI 0)) (k_di (s_rec f n) (s_iv f j 3 - nI 0)) k := by
    show k_aiU f n cn j (nI j) (nI 60) (nI 0) (nI 0) (62 + 44 * cn + 2 + k) = _
    unfold k_aiU
    exact ac_p hk
  rw [e1, a0, a0, a0, s0]
  unfold k_p2 k_ic
  rw [lo (8 + 4 * j) (by omega), lo (8 + 4 * j + 1) (by omega), lo (8 + 4 * j + 2) (by omega), lo (8 + 4 * j + 3) (by omega), lof (8 + 4 * j) (by omega), lof (8 + 4 * j + 1) (by omega), lof (8 + 4 * j + 2) (by omega), lof (8 + 4 * j + 3) (by omega)]
  have d0 := (lo 0 (by omega)).symm
  have d4 := (lo 4 (by omega)).symm
  have d5 := (lo 5 (by omega)).symm
  by_cases c : k < 21
  · rw [if_pos c, if_pos c]
    unfold k_do
    rw [dk_cg d0 d4, dk_cg d0 d4, d4, d5]
    rfl
  · rw [if_neg c, if_neg c]
    unfold k_di
    rw [d0, d5]
/-! answers to what isn't there -/
theorem prs_10 (hc : f 61 = nI cn) (hcn : cn ≤ 10) {st sa : Int32} : q_prs f (nI 10) st sa = (-2000000001 : Int32) := by
  unfold q_prs
  refine if_neg (fun q => ?_)
  obtain ⟨i, hi, ei⟩ := in_card hcn hc q.1
  have := (nI_eq (by omega) (by omega)).mp ei
  omega
theorem evn_4 {v : Int32} : q_evn f v (nI 4) = (-2000000001 : Int32) := by
  unfold q_evn
  exact if_neg (fun q => absurd q.2.2 (by decide))
theorem val_2 {ev : Int32} : s_vaR f (nI 2) ev = (-2000000001 : Int32) := by
  unfold s_vaR
  exact if_neg (fun q => absurd q.1.2 (by decide))
theorem cl_0 : s_putr f n 0 (nI 1 ≤ nI 0 ∧ nI 0 ≤ nI 20) = (-2000000001 : Int32) ∧ s_putf f n 0 (nI 1 ≤ nI 0 ∧ nI 0 ≤ nI 20) (nI 0) = f ∧ s_putn n (nI 1 ≤ nI 0 ∧ nI 0 ≤ nI 20) = n := by
  unfold s_putr s_putf s_putn
  rw [if_neg (by decide), if_neg (by decide), if_neg (by decide)]
  exact ⟨rfl, rfl, rfl⟩
end LF
