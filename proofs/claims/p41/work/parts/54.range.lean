/-! ranges: what every state keeps -/
def iv (lo hi : Int) (x : Int32) : Prop := lo ≤ x.toInt ∧ x.toInt ≤ hi
theorem iv_of {l u : Nat} {x : Int32} (h : nI l ≤ x ∧ x ≤ nI u) (hl : l < 2 ^ 31) (hu : u < 2 ^ 31) : iv l u x := by
  have h1 := Int32.le_iff_toInt_le.mp h.1
  have h2 := Int32.le_iff_toInt_le.mp h.2
  rw [nI_toInt hl] at h1
  rw [nI_toInt hu] at h2
  exact ⟨h1, h2⟩
theorem iv_nat {u : Nat} {x : Int32} (hu : u < 2 ^ 31) (h : iv 0 u x) : ∃ j : Nat, j ≤ u ∧ x = nI j := by
  obtain ⟨h1, h2⟩ := h
  refine ⟨x.toInt.toNat, by omega, Int32.toInt_inj.mp ?_⟩
  rw [nI_toInt (by omega)]
  omega
theorem iv_w {a b c d : Int} {x : Int32} (h : iv a b x) (h1 : c ≤ a) (h2 : b ≤ d) : iv c d x := ⟨Int.le_trans h1 h.1, Int.le_trans h.2 h2⟩
def GF (F : Nat → Int32) : Prop := iv 1 20 (F 0) ∧ iv 1 5000 (F 1) ∧ iv 1 5000 (F 2) ∧ iv 1 300 (F 3) ∧ iv 100 2000 (F 4) ∧ iv 10 99 (F 5) ∧ iv 1 100 (F 6) ∧ iv 1 50 (F 7)
def GV (F : Nat → Int32) (b : Nat) : Prop := iv 0 5 (F b) ∧ iv 1 18 (F (b + 1)) ∧ iv 2 20 (F (b + 2)) ∧ iv 0 19 (F (b + 3)) ∧ (F b).toInt < (F (b + 1)).toInt ∧ (F (b + 1)).toInt < (F (b + 2)).toInt
def GT (F : Nat → Int32) : Prop := iv 0 1 (F 17) ∧ iv 0 600 (F 18) ∧ ∀ k, k < 42 → iv 0 5001 (F (19 + k))
def GCc (F : Nat → Int32) (j : Nat) : Prop := iv 0 1 (F (62 + 44 * j)) ∧ iv 0 600 (F (62 + 44 * j + 1)) ∧ ∀ k, k < 42 → iv 0 5000 (F (62 + 44 * j + 2 + k))
def GC (F : Nat → Int32) (cn : Nat) : Prop := ∀ j, j < cn → GCc F j
def GB (F : Nat → Int32) : Prop := GF F ∧ (GV F 8 ∧ GV F 12) ∧ GT F ∧ ∃ cn, cn ≤ 10 ∧ F 61 = nI cn ∧ GC F cn
def GD (f : Nat → Int32) (n : Nat) : Prop := GB f ∧ ∀ b, 1 ≤ b → b ≤ n → GB (fun j => f (502 * b + j))
section GBS
variable {F F' f : Nat → Int32}
theorem GF.congr (h : GF F) (e : ∀ j, j < 8 → F j = F' j) : GF F' := by
  unfold GF at *
  rw [← e 0 (by omega), ← e 1 (by omega), ← e 2 (by omega), ← e 3 (by omega), ← e 4 (by omega), ← e 5 (by omega), ← e 6 (by omega), ← e 7 (by omega)]
  exact h
theorem GV.congr {b : Nat} (h : GV F b) (e : ∀ j, b ≤ j → j < b + 4 → F j = F' j) : GV F' b := by
  unfold GV at *
  rw [← e b (by omega) (by omega), ← e (b + 1) (by omega) (by omega), ← e (b + 2) (by omega) (by omega), ← e (b + 3) (by omega) (by omega)]
  exact h
theorem GT.congr (h : GT F) (e : ∀ j, 17 ≤ j → j < 61 → F j = F' j) : GT F' := by
  obtain ⟨h1, h2, h3⟩ := h
  exact ⟨by rw [← e 17 (by omega) (by omega)]; exact h1, by rw [← e 18 (by omega) (by omega)]; exact h2, fun k hk => by rw [← e _ (by omega) (by omega)]; exact h3 k hk⟩
theorem GC.congr {cn : Nat} (hcn : cn ≤ 10) (h : GC F cn) (e : ∀ j, 62 ≤ j → j < 502 → F j = F' j) : GC F' cn := fun j hj => by
  obtain ⟨h1, h2, h3⟩ := h j hj
  exact ⟨by rw [← e _ (by omega) (by omega)]; exact h1, by rw [← e _ (by omega) (by omega)]; exact h2, fun k hk => by rw [← e _ (by omega) (by omega)]; exact h3 k hk⟩
theorem GB.congr (h : GB F) (e : ∀ j, j < 502 → F j = F' j) : GB F' := by
  obtain ⟨h1, ⟨h2, h3⟩, h4, cn, hcn, hc, h5⟩ := h
  exact ⟨h1.congr (fun j hj => e j (by omega)), ⟨h2.congr (fun j _ hj => e j (by omega)), h3.congr (fun j _ hj => e j (by omega))⟩, h4.congr (fun j _ hj => e j (by omega)), cn, hcn, by rw [← e 61 (by omega)]; exact hc, GC.congr hcn h5 (fun j _ hj => e j hj)⟩
theorem GD.congr {n : Nat} (hn : n ≤ 4) (h : GD F n) (e : ∀ j, j < 2510 → F j = F' j) : GD F' n :=
  ⟨h.1.congr (fun j hj => e j (by omega)), fun b h1 h2 => (h.2 b h1 h2).congr (fun j hj => e _ (by omega))⟩
/-- block 0 anew, the others as they were -/
theorem GD.now {n : Nat} (hn : n ≤ 4) (h : GD F n) (h0 : GB F') (e : ∀ j, 502 ≤ j → j < 2510 → F j = F' j) : GD F' n :=
  ⟨h0, fun b h1 h2 => (h.2 b h1 h2).congr (fun j hj => e _ (by omega) (by omega))⟩
theorem GD.rec {n : Nat} (hn : n ≤ 4) (h : GD f n) : GD (s_rec f n) (s_recn n) := by
  refine ⟨h.1.congr (fun j hj => (s_rec_lo _ _ hj).symm), fun b h1 h2 => ?_⟩
  by_cases c : n = 4
  · subst c
    have h3 : b ≤ 4 := h2
    by_cases c2 : b = 4
    · subst c2; exact h.1.congr (fun j hj => (rec_4n hj).symm)
    · exact (h.2 (b + 1) (by omega) (by omega)).congr (fun j hj => (rec_4 h1 (by omega) hj).symm)
  · have h3 : b ≤ n + 1 := by unfold s_recn at h2; rw [if_neg c] at h2; exact h2
    by_cases c2 : b = n + 1
    · subst c2; exact h.1.congr (fun j hj => (rec_new (by omega) hj).symm)
    · exact (h.2 b h1 (by omega)).congr (fun j hj => (rec_at (by omega) (by omega) hj).symm)
theorem GD.und {n : Nat} (hn : n ≤ 4) (h : GD f n) : GD (s_undf f n) (n - 1) := by
  cases n with
  | zero => exact h
  | succ k =>
    refine ⟨(h.2 (k + 1) (by omega) (by omega)).congr (fun j hj => (und_lo hj).symm), fun b h1 h2 => (h.2 b h1 (by omega)).congr (fun j hj => (und_hi (by omega)).symm)⟩
end GBS
/-! what follows from the ranges -/
theorem rg_of {a b : Int32} (h1 : iv 0 5000 a) (h2 : iv 0 5000 b) : rg (a - b) := by
  obtain ⟨a1, a2⟩ := h1
  obtain ⟨b1, b2⟩ := h2
  unfold rg
  rw [fb_subI (by omega) (by omega)]
  omega
theorem df_rg {p : Nat → Int32} (h : ∀ k, k < 42 → iv 0 5000 (p k)) : ∀ k, k ≤ 20 → rg (s_df p k) := fun k hk => rg_of (h k (by omega)) (h (21 + k) (by omega))
theorem fw_le {p : Nat → Int32} {b : Int32} : ∀ m k j, k ≤ j → j < k + m → ¬ p j < b → s_fw p b m k ≤ j
  | 0, k, j, h1, h2, _ => by omega
  | m + 1, k, j, h1, h2, h3 => by
    unfold s_fw
    by_cases c : p k < b
    · rw [if_pos c]
      by_cases e : j = k
      · subst e; exact absurd c h3
      · exact fw_le m (k + 1) j (by omega) (by omega) h3
    · rw [if_neg c]; exact h1
theorem mx_in {p : Nat → Int32} : ∀ m, ∃ j, j ≤ m ∧ s_mx p m = p j
  | 0 => ⟨0, Nat.le_refl _, rfl⟩
  | m + 1 => by
    obtain ⟨j, h1, h2⟩ := mx_in (p := p) m
    unfold s_mx
    by_cases c : s_mx p m < p (m + 1)
    · rw [if_pos c]; exact ⟨m + 1, Nat.le_refl _, rfl⟩
    · rw [if_neg c]; exact ⟨j, by omega, h2⟩
theorem ad_le {f p : Nat → Int32} (h6 : iv 1 100 (f 6)) (h : ∀ k, k < 42 → iv 0 5000 (p k)) : s_ad f p ≤ 20 := by
  obtain ⟨j, h1, h2⟩ := mx_in (p := p) 20
  obtain ⟨a1, a2⟩ := h j (by omega)
  obtain ⟨b1, b2⟩ := h6
  have h3 : ¬ p j < s_bd f p := by
    intro c
    have c2 := Int32.lt_iff_toInt_lt.mp c
    unfold s_bd at c2
    rw [h2, fb_subI (by omega) (by omega)] at c2
    omega
  have := fw_le 21 0 j (by omega) (by omega) h3
  unfold s_ad
  omega
theorem vol_in {f : Nat → Int32} (h0 : iv 1 20 (f 0)) {k : Nat} (hk : k ≤ 20) : (f 0 + nI k).toInt = (f 0).toInt + (k : Int) := by
  obtain ⟨a1, a2⟩ := h0
  have e := nI_toInt (n := k) (by omega)
  rw [fb_addI (by omega) (by omega), e]
theorem mul_nn {a b A B : Int} (h1 : 0 ≤ a) (h2 : a ≤ A) (h3 : 0 ≤ b) (h4 : b ≤ B) : 0 ≤ a * b ∧ a * b ≤ A * B := ⟨Int.mul_nonneg h1 h3, Int.mul_le_mul h2 h4 h3 (by omega)⟩
theorem kc_in {f p : Nat → Int32} (h0 : iv 1 20 (f 0)) (h : ∀ k, k < 42 → iv 0 5000 (p k)) {k : Nat} (hk : k < 21) : 0 ≤ (s_kc f p k).toInt ∧ (s_kc f p k).toInt ≤ 250000 := by
  obtain ⟨a1, a2⟩ := h k (by omega)
  have e := vol_in h0 (k := k) (by omega)
  obtain ⟨b1, b2⟩ := h0
  have hm := mul_nn (a := (p k).toInt) (b := (f 0 + nI k).toInt) (A := 5000) (B := 40) a1 a2 (by omega) (by omega)
  unfold s_kc
  rw [fb_mulI (by omega) (by omega)]
  omega
theorem vol_ok {f : Nat → Int32} (h0 : iv 1 20 (f 0)) : s_vol f := fun i hi => by
  have e := vol_in h0 (k := i) (by omega)
  obtain ⟨b1, b2⟩ := h0
  have z : (0 : Int32).toInt = 0 := rfl
  have zl : (0 : Int64).toInt = 0 := rfl
  refine ⟨fun c => ?_, fun c => ?_⟩
  · rw [c, z] at e; omega
  · have c2 := congrArg Int64.toInt c
    rw [t64, e, zl] at c2
    omega
theorem mul_ab {a b : Int} {A B : Nat} (h1 : a.natAbs ≤ A) (h2 : b.natAbs ≤ B) : (a * b).natAbs ≤ A * B := by
  rw [Int.natAbs_mul]; exact Nat.mul_le_mul h1 h2
theorem ediv_bd {X K B : Int} (hK : 1 ≤ K) (h1 : -B ≤ X) (h2 : X ≤ B) (hB : 0 ≤ B) : -B ≤ X / K ∧ X / K ≤ B := by
  have m1 : B * 1 ≤ B * K := Int.mul_le_mul_of_nonneg_left hK hB
  have m2 : -B * K ≤ -B * 1 := Int.mul_le_mul_of_nonpos_left (by omega) hK
  exact ⟨(Int.le_ediv_iff_mul_le (by omega)).mpr (by omega), Int.ediv_le_of_le_mul (by omega) (by omega)⟩
theorem quo_d {x y : Int64} (h : 0 < y.toInt) : (s_quo x y).toInt = x.toInt / y.toInt := by
  rw [show s_quo x y = s_quo0 x y from rfl, s_quo0_fl x y h, fl_eq _ h]
theorem qi_d {x y : Int32} (h : 0 < y.toInt) : (q_i x y).toInt = x.toInt / y.toInt := by
  unfold q_i
  rw [if_neg (fun q => by rw [q] at h; exact absurd h (by decide)), q_fd_fl x y h, fl_eq _ h]
theorem pw_in {f : Nat → Int32} (hF : GF f) {a sp : Int32} {en : Nat} (hen : en ≤ 1) (ha : a.toInt.natAbs ≤ 200000) (hs : iv 0 600 sp) : (s_pw f a en sp).toInt.natAbs ≤ 75000001 := by
  obtain ⟨-, h1, h2, h3, -⟩ := hF
  have hp : iv 1 5000 (f (1 + en)) := by
    rcases (show en = 0 ∨ en = 1 by omega) with e | e <;> subst e
    · exact h1
    · exact h2
  obtain ⟨p1, p2⟩ := hp
  obtain ⟨s1, s2⟩ := h3
  obtain ⟨q1, q2⟩ := hs
  unfold s_pw
  have k2 : (2400000 : Int64).toInt = 2400000 := rfl
  rw [quo_d (by rw [k2]; decide), k2]
  have m1 := mul_ab (a := a.toInt) (b := (f (1 + en)).toInt) (A := 200000) (B := 5000) ha (by omega)
  have e1 : (a.toInt64 * (f (1 + en)).toInt64).toInt = a.toInt * (f (1 + en)).toInt := by rw [fb_mulL (by rw [t64, t64]; omega) (by rw [t64, t64]; omega), t64, t64]
  have m2 := mul_ab (a := a.toInt * (f (1 + en)).toInt) (b := (f 3).toInt) (A := 1000000000) (B := 300) (by omega) (by omega)
  have e2 : (a.toInt64 * (f (1 + en)).toInt64 * (f 3).toInt64).toInt = a.toInt * (f (1 + en)).toInt * (f 3).toInt := by rw [fb_mulL (by rw [e1, t64]; omega) (by rw [e1, t64]; omega), e1, t64]
  have m3 := mul_ab (a := a.toInt * (f (1 + en)).toInt * (f 3).toInt) (b := sp.toInt) (A := 300000000000) (B := 600) (by omega) (by omega)
  have e3 : (a.toInt64 * (f (1 + en)).toInt64 * (f 3).toInt64 * sp.toInt64).toInt = a.toInt * (f (1 + en)).toInt * (f 3).toInt * sp.toInt := by rw [fb_mulL (by rw [e2, t64]; omega) (by rw [e2, t64]; omega), e2, t64]
  rw [e3]
  omega
theorem ar_ab {p : Nat → Int32} (h : ∀ k, k < 42 → iv 0 5000 (p k)) : (s_ar p 20).toInt.natAbs ≤ 200000 := by
  have := ar_in p (df_rg h) 20 (by omega)
  omega
theorem en_of {f : Nat → Int32} {cn : Nat} (h : GC f cn) : ∀ j, j < cn → f (62 + 44 * j) = nI (s_en f j) ∧ s_en f j ≤ 1 := fun j hj => by
  obtain ⟨k, h1, h2⟩ := iv_nat (u := 1) (by decide) (h j hj).1
  have e : s_en f j = k := by unfold s_en; rw [h2, nI_clamp (by omega)]
  rw [e]
  exact ⟨h2, h1⟩
theorem pc_in {f : Nat → Int32} (hF : GF f) {cn : Nat} (h : GC f cn) {j : Nat} (hj : j < cn) : (s_pc f j).toInt.natAbs ≤ 75000001 := by
  unfold s_pc
  exact pw_in hF (en_of h j hj).2 (ar_ab (h j hj).2.2) (h j hj).2.1
theorem sp_in {f : Nat → Int32} (hF : GF f) {cn : Nat} (hcn : cn ≤ 10) (h : GC f cn) (en : Int32) : ∀ m : Nat, m ≤ cn → (s_sp f en m).toInt.natAbs ≤ 75000001 * m ∧ (s_mn f en m = 0 → s_sp f en m = lN 0)
  | 0, _ => ⟨by show (lN 0).toInt.natAbs ≤ _; decide, fun _ => rfl⟩
  | m + 1, hm => by
    obtain ⟨a1, a2⟩ := sp_in hF hcn h en m (by omega)
    have b1 := pc_in hF h (j := m) (by omega)
    have hz : (lN 0).toInt = 0 := rfl
    unfold s_sp s_mn
    by_cases c : f (62 + 44 * m) = en
    · rw [if_pos c, if_pos c]
      exact ⟨by rw [fb_addL (by omega) (by omega)]; omega, fun q => by omega⟩
    · rw [if_neg c, if_neg c]
      refine ⟨by rw [fb_addL (by rw [hz]; omega) (by rw [hz]; omega), hz]; omega, fun q => ?_⟩
      rw [a2 (by omega)]; decide
theorem mp_in {f : Nat → Int32} (hF : GF f) {cn : Nat} (hcn : cn ≤ 10) (h : GC f cn) (en : Int32) : bd40 (s_mp f en cn) := by
  obtain ⟨a1, a2⟩ := sp_in hF hcn h en cn (Nat.le_refl _)
  have hl := s_mn_le f en cn
  unfold s_mp bd40
  by_cases c : s_mn f en cn = 0
  · rw [a2 c, c]; decide
  · have e : ((nI (s_mn f en cn)).toInt64).toInt = (s_mn f en cn : Int) := by rw [t64, nI_toInt (by omega)]
    rw [quo_d (by rw [e]; omega), e]
    have := ediv_bd (X := (s_sp f en cn).toInt) (K := (s_mn f en cn : Int)) (B := 750000010) (by omega) (by omega) (by omega) (by decide)
    omega
