/-! the median: sorting by insertion, and by counting -/
section MED
variable {S h : Nat → Int32} {v u : Int32}
def m_cl (S : Nat → Int32) (v : Int32) : Nat → Nat
  | 0 => 0
  | k + 1 => m_cl S v k + (if S k < v then 1 else 0)
def m_cq (S : Nat → Int32) (v : Int32) : Nat → Nat
  | 0 => 0
  | k + 1 => m_cq S v k + (if S k ≤ v then 1 else 0)
theorem cl_le : ∀ m, m_cl S v m ≤ m
  | 0 => Nat.le_refl _
  | m + 1 => by
    have := cl_le m
    unfold m_cl
    split <;> omega
theorem cq_le : ∀ m, m_cq S v m ≤ m
  | 0 => Nat.le_refl _
  | m + 1 => by
    have := cq_le m
    unfold m_cq
    split <;> omega
def m_so (S : Nat → Int32) (m : Nat) : Prop := ∀ i j, i ≤ j → j < m → S i ≤ S j
theorem cl_all : ∀ m, (∀ i, i < m → S i < v) → m_cl S v m = m
  | 0, _ => rfl
  | m + 1, e => by
    unfold m_cl
    rw [cl_all m (fun i hi => e i (by omega)), if_pos (e m (by omega))]
theorem cq_all : ∀ m, (∀ i, i < m → S i ≤ v) → m_cq S v m = m
  | 0, _ => rfl
  | m + 1, e => by
    unfold m_cq
    rw [cq_all m (fun i hi => e i (by omega)), if_pos (e m (by omega))]
theorem cl_iff : ∀ m, m_so S m → ∀ i, i < m → (S i < v ↔ i < m_cl S v m)
  | 0, _, i, hi => absurd hi (Nat.not_lt_zero _)
  | m + 1, hs, i, hi => by
    by_cases c : S m < v
    · have e : ∀ i, i < m + 1 → S i < v := fun i hi => Int32.lt_of_le_of_lt (hs i m (by omega) (by omega)) c
      rw [cl_all (m + 1) e]
      exact ⟨fun _ => hi, fun _ => e i hi⟩
    · have e : m_cl S v (m + 1) = m_cl S v m := by unfold m_cl; rw [if_neg c]; cases m <;> rfl
      rw [e]
      rcases Nat.lt_or_ge i m with q | q
      · exact cl_iff m (fun i j h1 h2 => hs i j h1 (by omega)) i q
      · have q2 : i = m := by omega
        subst q2
        have := cl_le (S := S) (v := v) i
        exact ⟨fun z => absurd z c, fun z => by omega⟩
theorem cq_iff : ∀ m, m_so S m → ∀ i, i < m → (S i ≤ v ↔ i < m_cq S v m)
  | 0, _, i, hi => absurd hi (Nat.not_lt_zero _)
  | m + 1, hs, i, hi => by
    by_cases c : S m ≤ v
    · have e : ∀ i, i < m + 1 → S i ≤ v := fun i hi => Int32.le_trans (hs i m (by omega) (by omega)) c
      rw [cq_all (m + 1) e]
      exact ⟨fun _ => hi, fun _ => e i hi⟩
    · have e : m_cq S v (m + 1) = m_cq S v m := by unfold m_cq; rw [if_neg c]; cases m <;> rfl
      rw [e]
      rcases Nat.lt_or_ge i m with q | q
      · exact cq_iff m (fun i j h1 h2 => hs i j h1 (by omega)) i q
      · have q2 : i = m := by omega
        subst q2
        have := cq_le (S := S) (v := v) i
        exact ⟨fun z => absurd z c, fun z => by omega⟩
theorem cl_eq {T : Nat → Int32} : ∀ m, (∀ i, i < m → S i = T i) → m_cl S v m = m_cl T v m
  | 0, _ => rfl
  | m + 1, e => by
    unfold m_cl
    rw [cl_eq m (fun i hi => e i (by omega)), e m (by omega)]
theorem cq_eq {T : Nat → Int32} : ∀ m, (∀ i, i < m → S i = T i) → m_cq S v m = m_cq T v m
  | 0, _ => rfl
  | m + 1, e => by
    unfold m_cq
    rw [cq_eq m (fun i hi => e i (by omega)), e m (by omega)]
/-- what an insertion leaves -/
theorem in_all : ∀ (w : Nat) (h : Nat → Int32), m_so h w →
    (∀ j, w < j → k_in h v w j = h j) ∧ (∀ u, v ≤ u → (∀ j, j < w → h j ≤ u) → ∀ j, j ≤ w → k_in h v w j ≤ u) ∧ m_so (k_in h v w) (w + 1) ∧
    (∀ u, m_cl (k_in h v w) u (w + 1) = m_cl h u w + (if v < u then 1 else 0)) ∧ (∀ u, m_cq (k_in h v w) u (w + 1) = m_cq h u w + (if v ≤ u then 1 else 0))
  | 0, h, _ => by
    have e0 : k_in h v 0 = upd h 0 v := rfl
    rw [e0]
    refine ⟨fun j hj => upd_ne _ _ _ _ (by omega), fun u hu _ j hj => ?_, fun i j h1 h2 => ?_, fun u => ?_, fun u => ?_⟩
    · rw [show j = 0 by omega, upd_at]; exact hu
    · rw [show i = j by omega]; exact Int32.le_refl _
    · unfold m_cl m_cl; rw [upd_at]
    · unfold m_cq m_cq; rw [upd_at]
  | w + 1, h, hs => by
    by_cases c : v < h w
    · have e0 : k_in h v (w + 1) = k_in (upd h (w + 1) (h w)) v w := if_pos c
      rw [e0]
      have hg : ∀ j, j < w → upd h (w + 1) (h w) j = h j := fun j hj => upd_ne _ _ _ _ (by omega)
      have hs2 : m_so (upd h (w + 1) (h w)) w := fun i j h1 h2 => by
        rw [hg i (by omega), hg j h2]; exact hs i j h1 (by omega)
      obtain ⟨a1, a2, a3, a4, a5⟩ := in_all w (upd h (w + 1) (h w)) hs2
      have atw : k_in (upd h (w + 1) (h w)) v w (w + 1) = h w := by rw [a1 (w + 1) (by omega), upd_at]
      have low : ∀ j, j ≤ w → k_in (upd h (w + 1) (h w)) v w j ≤ h w := a2 (h w) (Int32.le_of_lt c) (fun j hj => by rw [hg j hj]; exact hs j w (by omega) (by omega))
      refine ⟨fun j hj => ?_, fun u hu hh j hj => ?_, fun i j h1 h2 => ?_, fun u => ?_, fun u => ?_⟩
      · rw [a1 j (by omega), upd_ne _ _ _ _ (by omega)]
      · rcases Nat.lt_or_ge w j with q | q
        · rw [show j = w + 1 by omega, atw]; exact hh w (by omega)
        · exact a2 u hu (fun j hj => by rw [hg j hj]; exact hh j (by omega)) j q
      · rcases Nat.lt_or_ge w j with q | q
        · rw [show j = w + 1 by omega, atw]
          rcases Nat.lt_or_ge w i with q2 | q2
          · rw [show i = w + 1 by omega, atw]; exact Int32.le_refl _
          · exact low i q2
        · exact a3 i j h1 (by omega)
      · have e1 : m_cl (k_in (upd h (w + 1) (h w)) v w) u (w + 1 + 1) = m_cl (k_in (upd h (w + 1) (h w)) v w) u (w + 1) + (if k_in (upd h (w + 1) (h w)) v w (w + 1) < u then 1 else 0) := rfl
        have e2 : m_cl h u (w + 1) = m_cl h u w + (if h w < u then 1 else 0) := rfl
        rw [e1, e2, a4 u, atw, cl_eq w hg]
        omega
      · have e1 : m_cq (k_in (upd h (w + 1) (h w)) v w) u (w + 1 + 1) = m_cq (k_in (upd h (w + 1) (h w)) v w) u (w + 1) + (if k_in (upd h (w + 1) (h w)) v w (w + 1) ≤ u then 1 else 0) := rfl
        have e2 : m_cq h u (w + 1) = m_cq h u w + (if h w ≤ u then 1 else 0) := rfl
        rw [e1, e2, a5 u, atw, cq_eq w hg]
        omega
    · have e0 : k_in h v (w + 1) = upd h (w + 1) v := if_neg c
      rw [e0]
      have hg : ∀ j, j < w + 1 → upd h (w + 1) v j = h j := fun j hj => upd_ne _ _ _ _ (by omega)
      refine ⟨fun j hj => upd_ne _ _ _ _ (by omega), fun u hu hh j hj => ?_, fun i j h1 h2 => ?_, fun u => ?_, fun u => ?_⟩
      · rcases Nat.lt_or_ge w j with q | q
        · rw [show j = w + 1 by omega, upd_at]; exact hu
        · rw [hg j (by omega)]; exact hh j (by omega)
      · rcases Nat.lt_or_ge w j with q | q
        · rw [show j = w + 1 by omega, upd_at]
          rcases Nat.lt_or_ge w i with q2 | q2
          · rw [show i = w + 1 by omega, upd_at]; exact Int32.le_refl _
          · rw [hg i (by omega)]; exact Int32.le_trans (hs i w q2 (by omega)) (Int32.not_lt.mp c)
        · rw [hg i (by omega), hg j (by omega)]; exact hs i j h1 (by omega)
      · have e1 : m_cl (upd h (w + 1) v) u (w + 1 + 1) = m_cl (upd h (w + 1) v) u (w + 1) + (if upd h (w + 1) v (w + 1) < u then 1 else 0) := rfl
        rw [e1, upd_at, cl_eq (w + 1) hg]
      · have e1 : m_cq (upd h (w + 1) v) u (w + 1 + 1) = m_cq (upd h (w + 1) v) u (w + 1) + (if upd h (w + 1) v (w + 1) ≤ u then 1 else 0) := rfl
        rw [e1, upd_at, cq_eq (w + 1) hg]
end MED
section MED2
variable {f so : Nat → Int32} {en : Int32}
def c_le (f : Nat → Int32) (en v : Int32) : Nat → Nat
  | 0 => 0
  | w + 1 => c_le f en v w + (if f (62 + 44 * w) = en ∧ s_A f w < v then 1 else 0)
def c_sa (f : Nat → Int32) (en v : Int32) : Nat → Nat
  | 0 => 0
  | w + 1 => c_sa f en v w + (if f (62 + 44 * w) = en ∧ s_A f w = v then 1 else 0)
theorem le_c (j : Nat) : ∀ w, s_le f en j w = c_le f en (s_A f j) w
  | 0 => rfl
  | w + 1 => by unfold s_le c_le; rw [le_c j w]
theorem sa_c (j : Nat) : ∀ w, s_sa f en j w = c_sa f en (s_A f j) w
  | 0 => rfl
  | w + 1 => by unfold s_sa c_sa; rw [sa_c j w]
theorem ms_all : ∀ w, m_so (k_ms f en so w) (s_mn f en w) ∧ (∀ u, m_cl (k_ms f en so w) u (s_mn f en w) = c_le f en u w) ∧ (∀ u, m_cq (k_ms f en so w) u (s_mn f en w) = c_le f en u w + c_sa f en u w)
  | 0 => ⟨fun i j h1 h2 => absurd h2 (Nat.not_lt_zero _), fun u => rfl, fun u => rfl⟩
  | w + 1 => by
    obtain ⟨a1, a2, a3⟩ := ms_all w
    by_cases c : f (62 + 44 * w) = en
    · have e1 : k_ms f en so (w + 1) = k_in (k_ms f en so w) (s_A f w) (s_mn f en w) := if_pos c
      have e2 : s_mn f en (w + 1) = s_mn f en w + 1 := by show s_mn f en w + (if f (62 + 44 * w) = en then 1 else 0) = _; rw [if_pos c]
      obtain ⟨-, -, b3, b4, b5⟩ := in_all (v := s_A f w) (s_mn f en w) (k_ms f en so w) a1
      rw [e1, e2]
      refine ⟨b3, fun u => ?_, fun u => ?_⟩
      · rw [b4 u, a2 u]
        show _ = c_le f en u w + (if f (62 + 44 * w) = en ∧ s_A f w < u then 1 else 0)
        by_cases q : s_A f w < u
        · rw [if_pos q, if_pos ⟨c, q⟩]
        · rw [if_neg q, if_neg (fun z => q z.2)]
      · rw [b5 u, a3 u]
        show _ = c_le f en u w + (if f (62 + 44 * w) = en ∧ s_A f w < u then 1 else 0) + (c_sa f en u w + (if f (62 + 44 * w) = en ∧ s_A f w = u then 1 else 0))
        by_cases q : s_A f w < u
        · rw [if_pos (Int32.le_of_lt q), if_pos ⟨c, q⟩, if_neg (fun z => absurd q (by rw [z.2]; exact Int32.lt_irrefl))]
          omega
        · by_cases q2 : s_A f w = u
          · rw [if_pos (by rw [q2]; exact Int32.le_refl _), if_neg (fun z => q z.2), if_pos ⟨c, q2⟩]
            omega
          · rw [if_neg (fun z => q2 (Int32.le_antisymm z (Int32.not_lt.mp q))), if_neg (fun z => q z.2), if_neg (fun z => q2 z.2)]
            omega
    · have e1 : k_ms f en so (w + 1) = k_ms f en so w := if_neg c
      have e2 : s_mn f en (w + 1) = s_mn f en w := by show s_mn f en w + (if f (62 + 44 * w) = en then 1 else 0) = _; rw [if_neg c]; rfl
      rw [e1, e2]
      refine ⟨a1, fun u => ?_, fun u => ?_⟩
      · rw [a2 u]
        show _ = c_le f en u w + (if f (62 + 44 * w) = en ∧ s_A f w < u then 1 else 0)
        rw [if_neg (fun z => c z.1)]; rfl
      · rw [a3 u]
        show _ = c_le f en u w + (if f (62 + 44 * w) = en ∧ s_A f w < u then 1 else 0) + (c_sa f en u w + (if f (62 + 44 * w) = en ∧ s_A f w = u then 1 else 0))
        rw [if_neg (fun z => c z.1), if_neg (fun z => c z.1)]; rfl
theorem sa_ex {v : Int32} : ∀ w, 0 < c_sa f en v w → ∃ k, k < w ∧ f (62 + 44 * k) = en ∧ s_A f k = v
  | 0, h => absurd h (Nat.lt_irrefl _)
  | w + 1, h => by
    unfold c_sa at h
    by_cases c : f (62 + 44 * w) = en ∧ s_A f w = v
    · exact ⟨w, by omega, c.1, c.2⟩
    · rw [if_neg c] at h
      obtain ⟨k, h1, h2⟩ := sa_ex w (by omega)
      exact ⟨k, by omega, h2⟩
theorem c_bd {v : Int32} : ∀ w, c_le f en v w + c_sa f en v w ≤ w
  | 0 => Nat.le_refl _
  | w + 1 => by
    have ih := c_bd (v := v) w
    unfold c_le c_sa
    by_cases q : f (62 + 44 * w) = en ∧ s_A f w < v
    · rw [if_pos q, if_neg (fun z => absurd q.2 (by rw [z.2]; exact Int32.lt_irrefl))]; omega
    · rw [if_neg q]
      split <;> omega
theorem inm_iff {pl cn j : Nat} (hcn : cn ≤ 10) (hpl : pl < cn) : s_inm f en pl cn j ↔ (c_le f en (s_A f j) cn ≤ pl ∧ pl < c_le f en (s_A f j) cn + c_sa f en (s_A f j) cn) := by
  unfold s_inm
  rw [le_c, sa_c]
  have hb := c_bd (f := f) (en := en) (v := s_A f j) cn
  generalize c_le f en (s_A f j) cn = A at *
  generalize c_sa f en (s_A f j) cn = B at *
  by_cases c : A + B = 0
  · rw [c]
    constructor
    · rintro ⟨-, h2⟩
      have h3 : nI pl ≤ (-1 : Int32) := by rw [show nI 0 - nI 1 = (-1 : Int32) by decide] at h2; exact h2
      have h4 := Int32.le_iff_toInt_le.mp h3
      rw [nI_toInt (by omega)] at h4
      have h5 : ((-1 : Int32)).toInt = -1 := by decide
      omega
    · intro h; omega
  · rw [pk_sub (show 1 ≤ A + B by omega)]
    constructor
    · rintro ⟨h1, h2⟩
      have h3 := (nI_leI (by omega) (by omega)).mp h1
      have h4 := (nI_leI (by omega) (by omega)).mp h2
      omega
    · rintro ⟨h1, h2⟩
      exact ⟨(nI_leI (by omega) (by omega)).mpr h1, (nI_leI (by omega) (by omega)).mpr (by omega)⟩
theorem md_at {pl cn : Nat} {v : Int32} : ∀ j, (∀ k, k < j → f (62 + 44 * k) = en → s_inm f en pl cn k → s_A f k = v) → (∃ k, k < j ∧ f (62 + 44 * k) = en ∧ s_inm f en pl cn k) → s_md f en pl cn j = v
  | 0, _, ⟨k, h, _⟩ => absurd h (Nat.not_lt_zero _)
  | j + 1, h1, h2 => by
    unfold s_md
    by_cases c : f (62 + 44 * j) = en ∧ s_inm f en pl cn j
    · rw [if_pos c]; exact h1 j (by omega) c.1 c.2
    · rw [if_neg c]
      refine md_at j (fun k hk => h1 k (by omega)) ?_
      obtain ⟨k, a1, a2, a3⟩ := h2
      by_cases q : k = j
      · subst q; exact absurd ⟨a2, a3⟩ c
      · exact ⟨k, by omega, a2, a3⟩
theorem mdn_eq {cn : Nat} (hcn : cn ≤ 10) (hm : 0 < s_mn f en cn) : k_mdn f en so cn = s_mdn f en cn := by
  have hmn := s_mn_le f en cn
  unfold k_mdn s_mdn
  rw [if_neg (by omega)]
  obtain ⟨a1, a2, a3⟩ := ms_all (f := f) (en := en) (so := so) cn
  have hpl : (s_mn f en cn - 1) / 2 < s_mn f en cn := by omega
  generalize (s_mn f en cn - 1) / 2 = pl at *
  have key : ∀ v, k_ms f en so cn pl = v ↔ (c_le f en v cn ≤ pl ∧ pl < c_le f en v cn + c_sa f en v cn) := by
    intro v
    rw [← a3 v, ← a2 v]
    have h1 := cl_iff (v := v) (s_mn f en cn) a1 pl hpl
    have h2 := cq_iff (v := v) (s_mn f en cn) a1 pl hpl
    constructor
    · intro e
      refine ⟨Nat.not_lt.mp (fun z => absurd (h1.mpr z) (by rw [e]; exact Int32.lt_irrefl)), h2.mp (by rw [e]; exact Int32.le_refl _)⟩
    · rintro ⟨z1, z2⟩
      exact Int32.le_antisymm (h2.mpr z2) (Int32.not_lt.mp (fun z => absurd (h1.mp z) (by omega)))
  symm
  refine md_at cn (fun k hk _ hi => ((key (s_A f k)).mpr ((inm_iff hcn (by omega)).mp hi)).symm) ?_
  have h3 := (key (k_ms f en so cn pl)).mp rfl
  obtain ⟨k, b1, b2, b3⟩ := sa_ex cn (show 0 < c_sa f en (k_ms f en so cn pl) cn by omega)
  exact ⟨k, b1, b2, (inm_iff hcn (by omega)).mpr (by rw [b3]; exact h3)⟩
end MED2
