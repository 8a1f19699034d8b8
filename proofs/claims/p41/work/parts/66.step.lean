/-! what a call that changes the state does: an error changes nothing; else the state before lies in the newest block -/
def AC (f F : Nat → Int32) (N : Nat) (r : Int32) : Prop := (r < (-1000000000 : Int32) → ∀ j, j < 502 → F j = f j) ∧ ((-1000000000 : Int32) < r → 1 ≤ N ∧ ∀ j, j < 502 → F (502 * N + j) = f j)
theorem XW.b16 {g : kG} {x a : Nat → Nat} {M : Nat → Prop} {n : Nat} {f : Nat → Int32} {H : Heap} (h : XW g x a M f n H) : f 16 = nI 0 ∨ f 16 = nI 1 := by
  obtain ⟨-, -, -, d, r, hs, ws, -, -, -, hB⟩ := h
  exact hB.1
section ACS
variable {f F : Nat → Int32} {n cn N : Nat} {r en sp sh lk v pct : Int32}
theorem recn_pos : 1 ≤ s_recn n := by unfold s_recn; split <;> omega
theorem rec_blk (hn : n ≤ 4) {j : Nat} (hj : j < 502) : s_rec f n (502 * s_recn n + j) = f j := by
  unfold s_recn
  by_cases c : n = 4
  · subst c; rw [if_pos rfl]; exact rec_4n hj
  · rw [if_neg c]; exact rec_new (by omega) hj
theorem k_m9 : (-1000000000 : Int32).toInt = -1000000000 := by decide
theorem ac_no (h : r.toInt ≤ -1000000000) : AC f f n r := ⟨fun _ _ _ => rfl, fun q => by
  have := Int32.lt_iff_toInt_lt.mp q
  rw [k_m9] at this
  omega⟩
theorem ac_ok (hn : n ≤ 4) (h : -1000000000 ≤ r.toInt) (e : ∀ k, 502 ≤ k → k < 2510 → F k = s_rec f n k) : AC f F (s_recn n) r := ⟨fun q => by
    have := Int32.lt_iff_toInt_lt.mp q
    rw [k_m9] at this
    omega, fun _ => ⟨recn_pos, fun j hj => by
    have h1 := recn_pos (n := n)
    have h2 := recn_le hn
    rw [e _ (by omega) (by omega), rec_blk hn hj]⟩⟩
theorem nI_nn {k : Nat} (h : k < 2 ^ 31) : -1000000000 ≤ (nI k).toInt := by rw [nI_toInt h]; omega
theorem ac_put {q : Nat} {P : Prop} [Decidable P] (hn : n ≤ 4) (hq : q < 8) (hr : -1000000000 ≤ (f q).toInt) : AC f (s_putf f n q P v) (s_putn n P) (s_putr f n q P) := by
  unfold s_putf s_putn s_putr
  by_cases c : P
  · rw [if_pos c, if_pos c, if_pos c]
    exact ac_ok hn (by rw [s_rec_lo _ _ (by omega)]; exact hr) (fun k h1 _ => upd_ne _ _ _ _ (by omega))
  · rw [if_neg c, if_neg c, if_neg c]
    exact ac_no (by decide)
theorem ac_pa (hn : n ≤ 4) (hF : GF f) : AC f (s_putf f n (s_plPA en) (s_okPA en v) v) (s_putn n (s_okPA en v)) (s_putr f n (s_plPA en) (s_okPA en v)) := by
  obtain ⟨-, ⟨h1, -⟩, ⟨h2, -⟩, -⟩ := hF
  refine ac_put hn ?_ ?_
  · unfold s_plPA; split <;> decide
  · unfold s_plPA; split <;> omega
theorem ac_se {b t : Int32} (hn : n ≤ 4) (hF : GF f) : AC f (s_seF f n b t) (s_seN n b t) (s_seR f n b t) := by
  unfold s_seF s_seN s_seR
  by_cases c : (nI 1 ≤ b ∧ b ≤ nI 100) ∧ (nI 1 ≤ t ∧ t ≤ nI 50)
  · rw [if_pos c, if_pos c, if_pos c]
    refine ac_ok hn ?_ (fun k h1 _ => by rw [upd_ne _ _ _ _ (by omega), upd_ne _ _ _ _ (by omega)])
    obtain ⟨-, -, -, -, -, -, ⟨h1, h2⟩, h3, h4⟩ := hF
    have e1 : (nI 100).toInt = 100 := rfl
    have e2 : (nI 100 * s_rec f n 6).toInt = 100 * (f 6).toInt := by rw [s_rec_lo _ _ (by omega), fb_mulI (by rw [e1]; omega) (by rw [e1]; omega), e1]
    rw [s_rec_lo f n (j := 7) (by omega), fb_addI (by rw [e2]; omega) (by rw [e2]; omega), e2]
    omega
  · rw [if_neg c, if_neg c, if_neg c]
    exact ac_no (by decide)
theorem ac_sv {va c rr m : Int32} (hn : n ≤ 4) : AC f (s_svF f n en va c rr m) (s_svN n en va c rr m) (s_svR en va c rr m) := by
  unfold s_svF s_svN s_svR
  by_cases hc : s_okV en va c rr m
  · rw [if_pos hc, if_pos hc, if_pos hc]
    obtain ⟨j, hj, ej⟩ := in_nat (n := 1) (by decide) hc.1.1
    rw [show en.toNatClampNeg = j by rw [ej]; exact nI_clamp (by omega)]
    exact ac_ok hn (nI_nn (by decide)) (fun k h1 _ => svU_out (by omega))
  · rw [if_neg hc, if_neg hc, if_neg hc]
    exact ac_no (by decide)
theorem ac_bc (hn : n ≤ 4) (h16 : f 16 = nI 0 ∨ f 16 = nI 1) : AC f (s_bcF f n en sp) (s_bcN n en sp) (s_bcR f n en sp) := by
  unfold s_bcF s_bcN s_bcR
  by_cases c : s_okB en sp
  · rw [if_pos c, if_pos c, if_pos c]
    refine ac_ok hn ?_ (fun k h1 _ => bcU_hi (by omega))
    rw [s_rec_lo _ _ (by omega)]
    rcases h16 with q | q <;> rw [q] <;> decide
  · rw [if_neg c, if_neg c, if_neg c]
    exact ac_no (by decide)
theorem ac_sp {st sa pr : Int32} (hn : n ≤ 4) : AC f (s_spF f n st sa pr) (s_spN f n st sa pr) (s_spR f n st sa pr) := by
  unfold s_spF s_spN s_spR
  by_cases c1 : s_okP st sa pr
  · by_cases c2 : f 16 = nI 0
    · rw [if_neg (fun q => q.2 c2), if_neg (fun q => q.2 c2), if_pos c1, if_pos c2]
      exact ac_no (by decide)
    · rw [if_pos ⟨c1, c2⟩, if_pos ⟨c1, c2⟩, if_pos c1, if_neg c2]
      obtain ⟨j, hj, ej⟩ := in_nat (n := 1) (by decide) c1.1
      obtain ⟨k, hk, ek⟩ := in_nat (n := 20) (by decide) c1.2.1
      rw [show st.toNatClampNeg = j by rw [ej]; exact nI_clamp (by omega), show sa.toNatClampNeg = k by rw [ek]; exact nI_clamp (by omega)]
      refine ac_ok hn (nI_nn ?_) (fun i h1 _ => spU_e hj hk pr i (by omega))
      have := s_cnt_le (fun i => s_spU (s_rec f n) j k pr (19 + 21 * j + i)) 21
      omega
  · rw [if_neg (fun q => c1 q.1), if_neg (fun q => c1 q.1), if_neg c1]
    exact ac_no (by decide)
theorem ac_fc (hn : n ≤ 4) (hcn : cn ≤ 10) : AC f (s_fcF f n cn) (s_fcN f n cn) (s_fcR f cn) := by
  unfold s_fcF s_fcN s_fcR
  by_cases c1 : s_okF f
  · by_cases c2 : cn = 10
    · rw [if_neg (fun q => q.2 c2), if_neg (fun q => q.2 c2), if_pos c1, if_pos c2]
      exact ac_no (by decide)
    · rw [if_pos ⟨c1, c2⟩, if_pos ⟨c1, c2⟩, if_pos c1, if_neg c2]
      refine ac_ok hn (nI_nn (by omega)) (fun k h1 h2 => ?_)
      unfold s_fcU s_acU s_acG
      rw [upd_ne _ _ _ _ (by omega), s_fl_out _ _ _ _ _ (by omega), upd_ne _ _ _ _ (by omega), upd_ne _ _ _ _ (by omega), upd_ne _ _ _ _ (by omega)]
      unfold s_fcG
      rw [s_fl_out _ _ _ _ _ (by omega)]
  · rw [if_neg (fun q => c1 q.1), if_neg (fun q => c1 q.1), if_neg c1]
    exact ac_no (by decide)
theorem ac_ai (hn : n ≤ 4) (hcn : cn ≤ 10) : AC f (k_aiF f n cn en sp sh lk) (s_aiN f n cn en sp sh lk) (s_aiR f cn en sp sh lk) := by
  unfold k_aiF s_aiN s_aiR
  by_cases c1 : s_okI en sp sh lk
  · by_cases c2 : s_exI f en.toNatClampNeg sh
    · by_cases c3 : cn = 10
      · rw [if_neg (fun q => q.2.2 c3), if_neg (fun q => q.2.2 c3), if_pos c1, if_pos c2, if_pos c3]
        exact ac_no (by decide)
      · rw [if_pos ⟨c1, c2, c3⟩, if_pos ⟨c1, c2, c3⟩, if_pos c1, if_pos c2, if_neg c3]
        refine ac_ok hn (nI_nn (by omega)) (fun k h1 _ => ?_)
        unfold k_aiU
        exact ac_hi (by omega) h1
    · rw [if_neg (fun q => c2 q.2.1), if_neg (fun q => c2 q.2.1), if_pos c1, if_neg c2]
      exact ac_no (by decide)
  · rw [if_neg (fun q => c1 q.1), if_neg (fun q => c1 q.1), if_neg c1]
    exact ac_no (by decide)
theorem ac_rc (hn : n ≤ 4) (hc : f 61 = nI cn) (hcn : cn ≤ 10) : AC f (s_rcF f n cn v) (s_rcN f n v) (s_rcR f cn v) := by
  unfold s_rcF s_rcN s_rcR
  by_cases c : s_okC f v
  · rw [if_pos c, if_pos c, if_pos c]
    obtain ⟨j, hj, ej⟩ := in_card hcn hc c
    rw [show v.toNatClampNeg = j by rw [ej]; exact nI_clamp (by omega)]
    exact ac_ok hn (nI_nn (by omega)) (fun k h1 _ => rm_hi hcn hj h1)
  · rw [if_neg c, if_neg c, if_neg c]
    exact ac_no (by decide)
theorem ro_ct {md : Int32} : ∀ (y : Nat) (F : Nat → Int32) (ct rc : Nat), (s_ro en pct md y F ct rc).2 ≤ rc + y
  | 0, F, ct, rc => Nat.le_refl _
  | y + 1, F, ct, rc => by
    by_cases c : s_out en pct md F y
    · rw [s_ro_t c]
      have := ro_ct (md := md) y (s_rmU F y ct) (ct - 1) (rc + 1)
      omega
    · rw [s_ro_f c]
      have := ro_ct (md := md) y F ct rc
      omega
theorem ac_ro (hn : n ≤ 4) (hG : GB f) (hc : f 61 = nI cn) (hcn : cn ≤ 10) : AC f (s_roF f n en pct cn) (s_roN f n en pct cn) (s_roR f n en pct cn) := by
  unfold s_roF s_roN s_roR
  by_cases c1 : (nI 0 ≤ en ∧ en ≤ nI 1) ∧ (nI 0 ≤ pct ∧ pct ≤ nI 100)
  · by_cases c2 : s_mn f en cn = 0
    · rw [if_neg (fun q => q.2 c2), if_neg (fun q => q.2 c2), if_pos c1, if_pos c2]
      exact ac_no (by decide)
    · rw [if_pos ⟨c1, c2⟩, if_pos ⟨c1, c2⟩, if_pos c1, if_neg c2]
      have h2 : GB (s_rec f n) := hG.congr (fun j hj => (s_rec_lo _ _ hj).symm)
      obtain ⟨a1, a2⟩ := ro_in (en := en) (pct := pct) (md := s_mdn (s_rec f n) en cn) cn (s_rec f n) cn 0 h2 (by rw [s_rec_lo _ _ (by omega)]; exact hc) hcn (Nat.le_refl _)
      refine ac_ok hn (nI_nn ?_) (fun k h1 _ => a2 k h1)
      have := ro_ct (en := en) (pct := pct) (md := s_mdn (s_rec f n) en cn) cn (s_rec f n) cn 0
      unfold s_rro
      omega
  · rw [if_neg (fun q => c1 q.1), if_neg (fun q => c1 q.1), if_neg c1]
    exact ac_no (by decide)
theorem ac_und (h : AC f F N r) (hr : (-1000000000 : Int32) < r) : s_undr N = nI (N - 1) ∧ ∀ j, j < 502 → s_undf F N j = f j := by
  obtain ⟨h1, h2⟩ := h.2 hr
  cases N with
  | zero => omega
  | succ k => exact ⟨if_neg (by omega), fun j hj => by rw [und_lo hj, h2 j hj]⟩
end ACS
