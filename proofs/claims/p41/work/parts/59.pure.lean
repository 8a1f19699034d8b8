/-! the numbers that the law adds up, as a function of the state's first 502 -/
theorem XB.congr502 {g : kG} {x a : Nat → Nat} {n cn : Nat} {f f' : Nat → Int32} {rf : Nat → Option Nat} {H : Heap} (h : XB g x a n f cn rf H) (hcn : cn ≤ 10) (e : ∀ j, j < 502 → f j = f' j) : XB g x a n f' cn rf H := by
  obtain ⟨h1, h2, h3⟩ := h
  have ew : wB g x a n f rf = wB g x a n f' rf := by
    show [cM x (a 0) n, cS a f, cE (a 1) (f 8) (f 9) (f 10) (f 11), cE (a 2) (f 12) (f 13) (f 14) (f 15), cR g (a 6) rf, cC (x 2) (x 3) (x 4) (nI 0) (nI 0)] = _
    rw [show cS a f = cS a f' by rw [cS, cS, e 0 (by omega), e 1 (by omega), e 2 (by omega), e 3 (by omega), e 4 (by omega), e 5 (by omega), e 6 (by omega), e 7 (by omega), e 61 (by omega)], e 8 (by omega), e 9 (by omega), e 10 (by omega), e 11 (by omega), e 12 (by omega), e 13 (by omega), e 14 (by omega), e 15 (by omega)]
  rw [ew] at h1 h2
  refine ⟨h1, h2, fun i hi => ?_⟩
  obtain ⟨q, qo, qi, e1, e2, e3, e4, e5⟩ := h3 i hi
  rw [← e (62 + 44 * i) (by omega), ← e (62 + 44 * i + 1) (by omega)]
  exact ⟨q, qo, qi, e1, PC_eq e2 (fun k hk => e _ (by omega)), e3, e4, e5⟩
def tr0 (f : Nat → Int32) : Nat → Int32 := fun k => if k < 502 then f k else nI 0
theorem tr_lo {f : Nat → Int32} {j : Nat} (h : j < 502) : f j = tr0 f j := (if_pos h).symm
theorem tr_eq {f f' : Nat → Int32} (e : ∀ j, j < 502 → f j = f' j) : tr0 f = tr0 f' := by
  funext k
  unfold tr0
  by_cases c : k < 502
  · rw [if_pos c, if_pos c, e k c]
  · rw [if_neg c, if_neg c]
/-- what the queries want of the numbers -/
def QF (f : Nat → Int32) (cn : Nat) : Prop := cn ≤ 10 ∧ f 61 = nI cn ∧ GF f ∧ (GV f 8 ∧ GV f 12) ∧ GC f cn
theorem GB.qf {f : Nat → Int32} (h : GB f) : ∃ cn, QF f cn := by
  obtain ⟨h1, h2, -, cn, h3, h4, h5⟩ := h
  exact ⟨cn, h3, h4, h1, h2, h5⟩
theorem GB.qt {f : Nat → Int32} {cn : Nat} (h : GB f) (hc : f 61 = nI cn) (hcn : cn ≤ 10) : QF (tr0 f) cn := by
  obtain ⟨h1, h2, -, c2, h3, h4, h5⟩ := h.congr (F' := tr0 f) (fun j hj => tr_lo hj)
  have e : c2 = cn := (nI_eq (by omega) (by omega)).mp (h4.symm.trans (tr_lo (f := f) (show 61 < 502 by decide) ▸ hc))
  subst e
  exact ⟨h3, h4, h1, h2, h5⟩
theorem QF.R {f : Nat → Int32} {cn : Nat} (h : QF f cn) : ∀ j, j < cn → ∀ k, k ≤ 20 → rg (s_df (s_pt f j) k) := fun j hj => df_rg (h.2.2.2.2 j hj).2.2
theorem QF.E {f : Nat → Int32} {cn : Nat} (h : QF f cn) : ∀ j, j < cn → f (62 + 44 * j) = nI (s_en f j) ∧ s_en f j ≤ 1 := en_of h.2.2.2.2
theorem QF.X {f : Nat → Int32} {cn : Nat} (h : QF f cn) : ∀ j, j < cn → s_ad f (s_pt f j) ≤ 20 := fun j hj => ad_le h.2.2.1.2.2.2.2.2.2.1 (h.2.2.2.2 j hj).2.2
theorem QF.p0 {f : Nat → Int32} {cn : Nat} (h : QF f cn) : ∀ j, j < cn → ∀ k, k < 42 → prs (s_pt f j k) := fun j hj k hk => (h.2.2.2.2 j hj).2.2 k hk
theorem QF.Kc {f : Nat → Int32} {cn : Nat} (h : QF f cn) : ∀ j, j < cn → ∀ k, k < 21 → 0 ≤ (s_kc f (s_pt f j) k).toInt ∧ (s_kc f (s_pt f j) k).toInt ≤ 250000 := fun j hj k hk => kc_in h.2.2.1.1 (h.2.2.2.2 j hj).2.2 hk
theorem QF.M {f : Nat → Int32} {cn : Nat} (h : QF f cn) (en : Int32) : bd40 (s_mp f en cn) := mp_in h.2.2.1 h.1 h.2.2.2.2 en
/-! the sum, loop by loop -/
def v_a1 (f : Nat → Int32) : Nat → Int64
  | 0 => (31 : Int64)
  | k + 1 => (31 : Int64) * v_a1 f k + (s_vaR f (nI (k / 4)) (nI (k % 4))).toInt64
def q_cof (f : Nat → Int32) (cn : Nat) (en : Int32) : Int32 := if nI 0 ≤ en ∧ en ≤ nI 1 then nI (s_mn f en cn) else cINV
def q_iar (f : Nat → Int32) (en : Int32) : Int32 := if nI 0 ≤ en ∧ en ≤ nI 1 then s_ar (k_ic f (8 + 4 * en.toNatClampNeg) (f (8 + 4 * en.toNatClampNeg + 1))) 20 else cINV
def q_mpw (f : Nat → Int32) (cn : Nat) (en : Int32) : Int64 := if nI 0 ≤ en ∧ en ≤ nI 1 then (if s_mn f en cn = 0 then (-2000000004 : Int64) else s_mp f en cn) else (-2000000001 : Int64)
def v_a2 (f : Nat → Int32) (cn : Nat) : Nat → Int64
  | 0 => v_a1 f 8
  | e + 1 => (31 : Int64) * v_a2 f cn e + (7 : Int64) * (q_cof f cn (nI e)).toInt64 + (s_maR f (nI e) cn).toInt64 + (3 : Int64) * (q_iar f (nI e)).toInt64 + (5 : Int64) * q_mpw f cn (nI e)
def q_end (f : Nat → Int32) (v : Int32) : Int32 := if s_okC f v then f (62 + 44 * v.toNatClampNeg) else cINV
def q_spd (f : Nat → Int32) (v : Int32) : Int32 := if s_okC f v then f (62 + 44 * v.toNatClampNeg + 1) else cINV
def q_pow (f : Nat → Int32) (v : Int32) : Int64 := if s_okC f v then s_pc f v.toNatClampNeg else (-2000000001 : Int64)
def q_sli (f : Nat → Int32) (v : Int32) : Int32 := if s_okC f v then s_sl f v.toNatClampNeg 5 else cINV
def q_lea (f : Nat → Int32) (v : Int32) : Int32 := if s_okC f v then s_lk f (s_pt f v.toNatClampNeg) else cINV
def q_prs (f : Nat → Int32) (v st sa : Int32) : Int32 := if s_okC f v ∧ (nI 0 ≤ st ∧ st ≤ nI 1) ∧ (nI 0 ≤ sa ∧ sa ≤ nI 20) then s_pt f v.toNatClampNeg (21 * st.toNatClampNeg + sa.toNatClampNeg) else cINV
def q_con (f : Nat → Int32) (v st : Int32) : Int32 := if s_okC f v ∧ (nI 0 ≤ st ∧ st ≤ nI 20) then s_kc f (s_pt f v.toNatClampNeg) st.toNatClampNeg else cINV
def q_evn (f : Nat → Int32) (v ev : Int32) : Int32 := if s_okC f v ∧ (nI 0 ≤ ev ∧ ev ≤ nI 3) then nI (s_ev f v.toNatClampNeg ev.toNatClampNeg) else cINV
def q_lat (f : Nat → Int32) (v ev : Int32) : Int32 := if s_okC f v ∧ (nI 0 ≤ ev ∧ ev ≤ nI 3) then s_la f v.toNatClampNeg ev.toNatClampNeg else cINV
def q_are (f : Nat → Int32) (v : Int32) : Int32 := if s_okC f v then s_ar (s_pt f v.toNatClampNeg) 20 else cINV
def q_fwa (f : Nat → Int32) (v : Int32) : Int32 := if s_okC f v then s_pa (s_pt f v.toNatClampNeg) True 20 else cINV
def q_loa (f : Nat → Int32) (v : Int32) : Int32 := if s_okC f v then s_pa (s_pt f v.toNatClampNeg) False 20 else cINV
def q_los (f : Nat → Int32) (v : Int32) : Int32 := if s_okC f v then s_ls (s_pt f v.toNatClampNeg) 21 else cINV
def q_mpr (f : Nat → Int32) (v : Int32) : Int32 := if s_okC f v then (s_quo ((s_ar (s_pt f v.toNatClampNeg) 20).toInt64 * (1000 : Int64)) (40 : Int64)).toInt32 else cINV
def v_b1 (f : Nat → Int32) (c : Nat) (z : Int64) : Nat → Int64
  | 0 => z
  | k + 1 => (31 : Int64) * v_b1 f c z k + (q_prs f (nI c) (nI (k / 21)) (nI (k % 21))).toInt64
def v_b2 (f : Nat → Int32) (c : Nat) (z : Int64) : Nat → Int64
  | 0 => z
  | k + 1 => (31 : Int64) * v_b2 f c z k + (q_con f (nI c) (nI k)).toInt64
def v_b3 (f : Nat → Int32) (c : Nat) (z : Int64) : Nat → Int64
  | 0 => z
  | k + 1 => (31 : Int64) * v_b3 f c z k + (q_evn f (nI c) (nI k)).toInt64
def v_a3 (f : Nat → Int32) (cn : Nat) : Nat → Int64
  | 0 => v_a2 f cn 2
  | c + 1 => v_b3 f c (v_b2 f c (v_b1 f c ((31 : Int64) * v_a3 f cn c + (q_end f (nI c)).toInt64 + (2 : Int64) * (q_spd f (nI c)).toInt64 + (3 : Int64) * q_pow f (nI c) + (5 : Int64) * (q_sli f (nI c)).toInt64 + (7 : Int64) * (q_lea f (nI c)).toInt64) 42) 21) 4
def v_all (f : Nat → Int32) (cn : Nat) : Int64 := (31 : Int64) * v_a3 f cn cn + (nI cn).toInt64 + (s_im f cn).toInt64 + (k_bal f).toInt64
/-! a card's number, and numbers that are in range -/
section QC
variable {f : Nat → Int32} {cn c k : Nat}
theorem okC_n (hc : f 61 = nI cn) (hcn : cn ≤ 10) (h : c < cn) : s_okC f (nI c) := (okC_iff hcn hc).mp ⟨Int32.le_iff_toInt_le.mpr (by rw [nI_toInt (by omega), nI_toInt (by omega)]; omega), Int32.lt_iff_toInt_lt.mpr (by rw [hc, nI_toInt (by omega), nI_toInt (by omega)]; omega)⟩
theorem nI_rg {a b c : Nat} (h1 : a ≤ b) (h2 : b ≤ c) (h3 : c < 2 ^ 31) : nI a ≤ nI b ∧ nI b ≤ nI c :=
  ⟨Int32.le_iff_toInt_le.mpr (by rw [nI_toInt (by omega), nI_toInt (by omega)]; omega), Int32.le_iff_toInt_le.mpr (by rw [nI_toInt (by omega), nI_toInt (by omega)]; omega)⟩
theorem e_end (hc : f 61 = nI cn) (hcn : cn ≤ 10) (h : c < cn) : q_end f (nI c) = f (62 + 44 * c) := by
  unfold q_end; rw [if_pos (okC_n hc hcn h), nI_clamp (by omega)]
theorem e_pow (hc : f 61 = nI cn) (hcn : cn ≤ 10) (h : c < cn) : q_pow f (nI c) = s_pc f c := by
  unfold q_pow; rw [if_pos (okC_n hc hcn h), nI_clamp (by omega)]
theorem e_sli (hc : f 61 = nI cn) (hcn : cn ≤ 10) (h : c < cn) : q_sli f (nI c) = s_sl f c 5 := by
  unfold q_sli; rw [if_pos (okC_n hc hcn h), nI_clamp (by omega)]
theorem e_prs (hc : f 61 = nI cn) (hcn : cn ≤ 10) (h : c < cn) {st : Nat} (hs : st ≤ 1) (hk : k ≤ 20) : q_prs f (nI c) (nI st) (nI k) = s_pt f c (21 * st + k) := by
  unfold q_prs; rw [if_pos ⟨okC_n hc hcn h, nI_rg (Nat.zero_le _) hs (by decide), nI_rg (Nat.zero_le _) hk (by decide)⟩, nI_clamp (by omega), nI_clamp (by omega), nI_clamp (by omega)]
theorem e_evn (hc : f 61 = nI cn) (hcn : cn ≤ 10) (h : c < cn) (hk : k ≤ 3) : q_evn f (nI c) (nI k) = nI (s_ev f c k) := by
  unfold q_evn; rw [if_pos ⟨okC_n hc hcn h, nI_rg (Nat.zero_le _) hk (by decide)⟩, nI_clamp (by omega), nI_clamp (by omega)]
theorem e_lat (hc : f 61 = nI cn) (hcn : cn ≤ 10) (h : c < cn) (hk : k ≤ 3) : q_lat f (nI c) (nI k) = s_la f c k := by
  unfold q_lat; rw [if_pos ⟨okC_n hc hcn h, nI_rg (Nat.zero_le _) hk (by decide)⟩, nI_clamp (by omega), nI_clamp (by omega)]
theorem e_are (hc : f 61 = nI cn) (hcn : cn ≤ 10) (h : c < cn) : q_are f (nI c) = s_ar (s_pt f c) 20 := by
  unfold q_are; rw [if_pos (okC_n hc hcn h), nI_clamp (by omega)]
theorem e_fwa (hc : f 61 = nI cn) (hcn : cn ≤ 10) (h : c < cn) : q_fwa f (nI c) = s_pa (s_pt f c) True 20 := by
  unfold q_fwa; rw [if_pos (okC_n hc hcn h), nI_clamp (by omega)]
theorem e_loa (hc : f 61 = nI cn) (hcn : cn ≤ 10) (h : c < cn) : q_loa f (nI c) = s_pa (s_pt f c) False 20 := by
  unfold q_loa; rw [if_pos (okC_n hc hcn h), nI_clamp (by omega)]
theorem e_los (hc : f 61 = nI cn) (hcn : cn ≤ 10) (h : c < cn) : q_los f (nI c) = s_ls (s_pt f c) 21 := by
  unfold q_los; rw [if_pos (okC_n hc hcn h), nI_clamp (by omega)]
theorem e_mpr (hc : f 61 = nI cn) (hcn : cn ≤ 10) (h : c < cn) : q_mpr f (nI c) = (s_quo ((s_ar (s_pt f c) 20).toInt64 * (1000 : Int64)) (40 : Int64)).toInt32 := by
  unfold q_mpr; rw [if_pos (okC_n hc hcn h), nI_clamp (by omega)]
theorem e_val {en ev : Nat} (h1 : en ≤ 1) (h2 : ev ≤ 3) : s_vaR f (nI en) (nI ev) = f (8 + 4 * en + ev) := by
  unfold s_vaR; rw [if_pos ⟨nI_rg (Nat.zero_le _) h1 (by decide), nI_rg (Nat.zero_le _) h2 (by decide)⟩, nI_clamp (by omega), nI_clamp (by omega)]
theorem e_cof {en : Nat} (h1 : en ≤ 1) : q_cof f cn (nI en) = nI (s_mn f (nI en) cn) := by
  unfold q_cof; rw [if_pos (nI_rg (Nat.zero_le _) h1 (by decide))]
theorem e_mpw {en : Nat} (h1 : en ≤ 1) : q_mpw f cn (nI en) = (if s_mn f (nI en) cn = 0 then (-2000000004 : Int64) else s_mp f (nI en) cn) := by
  unfold q_mpw; rw [if_pos (nI_rg (Nat.zero_le _) h1 (by decide))]
theorem e_mar {en : Nat} (h1 : en ≤ 1) : s_maR f (nI en) cn = (if s_mn f (nI en) cn = 0 then cNON else s_ar (s_mv f (nI en) cn) 20) := by
  unfold s_maR; rw [if_pos (nI_rg (Nat.zero_le _) h1 (by decide))]
theorem e_iar {en : Nat} (h1 : en ≤ 1) : q_iar f (nI en) = s_ar (k_ic f (8 + 4 * en) (f (8 + 4 * en + 1))) 20 := by
  unfold q_iar; rw [if_pos (nI_rg (Nat.zero_le _) h1 (by decide)), nI_clamp (by omega)]
end QC
