def s_mx (p : Nat → Int32) : Nat → Int32
  | 0 => p 0
  | k + 1 => if s_mx p k < p (k + 1) then p (k + 1) else s_mx p k
def s_mi (p : Nat → Int32) : Nat → Int32
  | 0 => p 0
  | k + 1 => if p (k + 1) < s_mi p k then p (k + 1) else s_mi p k
def s_ex (p : Nat → Int32) (P : Prop) [Decidable P] (k : Nat) : Int32 := if P then s_mx p k else s_mi p k
theorem mx_t {p : Nat → Int32} {k : Nat} (h : s_mx p k < p (k + 1)) : s_mx p (k + 1) = p (k + 1) := if_pos h
theorem mx_f {p : Nat → Int32} {k : Nat} (h : ¬ s_mx p k < p (k + 1)) : s_mx p (k + 1) = s_mx p k := if_neg h
theorem mi_t {p : Nat → Int32} {k : Nat} (h : p (k + 1) < s_mi p k) : s_mi p (k + 1) = p (k + 1) := if_pos h
theorem mi_f {p : Nat → Int32} {k : Nat} (h : ¬ p (k + 1) < s_mi p k) : s_mi p (k + 1) = s_mi p k := if_neg h
theorem ex_t {p : Nat → Int32} {P : Prop} [Decidable P] {k : Nat} (h : P) : s_ex p P k = s_mx p k := if_pos h
theorem ex_f {p : Nat → Int32} {P : Prop} [Decidable P] {k : Nat} (h : ¬ P) : s_ex p P k = s_mi p k := if_neg h
def s_fw (p : Nat → Int32) (b : Int32) : Nat → Nat → Nat
  | 0, k => k
  | m + 1, k => if p k < b then s_fw p b m (k + 1) else k
theorem s_fw_t {p : Nat → Int32} {b : Int32} {m k : Nat} (h : p k < b) : s_fw p b (m + 1) k = s_fw p b m (k + 1) := if_pos h
theorem s_fw_f {p : Nat → Int32} {b : Int32} {m k : Nat} (h : ¬ p k < b) : s_fw p b (m + 1) k = k := if_neg h
def s_bd (f : Nat → Int32) (p : Nat → Int32) : Int32 := s_mx p 20 - f 6
def s_ad (f : Nat → Int32) (p : Nat → Int32) : Nat := s_fw p (s_bd f p) 21 0
def s_co (p : Nat → Int32) (b : Int32) : Nat → Nat → Nat
  | 0, k => k
  | m + 1, k => if k < 20 ∧ b ≤ p (k + 1) then s_co p b m (k + 1) else k
theorem s_co_t {p : Nat → Int32} {b : Int32} {m k : Nat} (h : k < 20) (h2 : b ≤ p (k + 1)) : s_co p b (m + 1) k = s_co p b m (k + 1) := if_pos ⟨h, h2⟩
theorem s_co_f {p : Nat → Int32} {b : Int32} {m k : Nat} (h : ¬ (k < 20 ∧ b ≤ p (k + 1))) : s_co p b m k = k := by
  cases m with
  | zero => rfl
  | succ m => exact if_neg h
theorem s_co_in (p : Nat → Int32) (b : Int32) : ∀ m k, k ≤ s_co p b m k ∧ (k ≤ 20 → s_co p b m k ≤ 20)
  | 0, k => ⟨Nat.le_refl _, fun h => h⟩
  | m + 1, k => by
    have ih := s_co_in p b m (k + 1)
    unfold s_co
    split
    · exact ⟨by omega, fun _ => ih.2 (by omega)⟩
    · exact ⟨Nat.le_refl _, fun h => h⟩
def s_cu (f : Nat → Int32) (p : Nat → Int32) : Nat := s_co p (s_bd f p) 20 (s_ad f p)
def s_kc (f : Nat → Int32) (p : Nat → Int32) (k : Nat) : Int32 := p k * (f 0 + nI k)
def s_rb (f : Nat → Int32) (p : Nat → Int32) : Int32 := s_kc f p (s_cu f p) * (nI 100 - f 7)
def s_rl (f : Nat → Int32) (p : Nat → Int32) (b : Int32) : Nat → Nat → Nat
  | 0, k => k
  | m + 1, k => if k ≤ 20 ∧ b ≤ s_kc f p k * nI 100 then s_rl f p b m (k + 1) else k
theorem s_rl_t {f p : Nat → Int32} {b : Int32} {m k : Nat} (h : k ≤ 20) (h2 : b ≤ s_kc f p k * nI 100) : s_rl f p b (m + 1) k = s_rl f p b m (k + 1) := if_pos ⟨h, h2⟩
theorem s_rl_f {f p : Nat → Int32} {b : Int32} {m k : Nat} (h : ¬ (k ≤ 20 ∧ b ≤ s_kc f p k * nI 100)) : s_rl f p b m k = k := by
  cases m with
  | zero => rfl
  | succ m => exact if_neg h
theorem s_rl_ge (f p : Nat → Int32) (b : Int32) : ∀ m k, k ≤ s_rl f p b m k
  | 0, k => Nat.le_refl _
  | m + 1, k => by
    have ih := s_rl_ge f p b m (k + 1)
    unfold s_rl
    split <;> omega
def s_re (f : Nat → Int32) (p : Nat → Int32) : Nat := if 20 < s_rl f p (s_rb f p) 21 (s_cu f p + 1) then 20 else s_rl f p (s_rb f p) 21 (s_cu f p + 1)
theorem s_re_in (f p : Nat → Int32) : 1 ≤ s_re f p ∧ s_re f p ≤ 20 := by
  have h := s_rl_ge f p (s_rb f p) 21 (s_cu f p + 1)
  unfold s_re
  split <;> omega
def s_cm (p : Nat → Int32) (b : Int32) : Nat → Nat
  | 0 => 0
  | k + 1 => if b < p k then k + 1 else s_cm p b k
theorem s_cm_le (p : Nat → Int32) (b : Int32) : ∀ k, s_cm p b k ≤ k
  | 0 => Nat.le_refl _
  | k + 1 => by
    have ih := s_cm_le p b k
    unfold s_cm
    split <;> omega
def s_cp (f : Nat → Int32) (p : Nat → Int32) : Nat := if 20 < s_cm (fun k => p (21 + k)) (s_mi (fun k => p (21 + k)) 20 + f 6) 21 then 20 else s_cm (fun k => p (21 + k)) (s_mi (fun k => p (21 + k)) 20 + f 6) 21
theorem s_co_fuel (p : Nat → Int32) (b : Int32) : ∀ (m1 m2 k : Nat), k ≤ 20 → 20 ≤ k + m1 → 20 ≤ k + m2 → s_co p b m1 k = s_co p b m2 k
  | 0, m2, k, h, h1, h2 => by rw [s_co_f (m := 0) (fun q => by omega), s_co_f (m := m2) (fun q => by omega)]
  | m1 + 1, 0, k, h, h1, h2 => by rw [s_co_f (m := 0) (fun q => by omega), s_co_f (m := m1 + 1) (fun q => by omega)]
  | m1 + 1, m2 + 1, k, h, h1, h2 => by
    by_cases q : k < 20 ∧ b ≤ p (k + 1)
    · rw [s_co_t q.1 q.2, s_co_t q.1 q.2, s_co_fuel p b m1 m2 (k + 1) (by omega) (by omega) (by omega)]
    · rw [s_co_f q, s_co_f q]
theorem s_rl_fuel (f p : Nat → Int32) (b : Int32) : ∀ (m1 m2 k : Nat), k ≤ 21 → 21 ≤ k + m1 → 21 ≤ k + m2 → s_rl f p b m1 k = s_rl f p b m2 k
  | 0, m2, k, h, h1, h2 => by rw [s_rl_f (m := 0) (fun q => by omega), s_rl_f (m := m2) (fun q => by omega)]
  | m1 + 1, 0, k, h, h1, h2 => by rw [s_rl_f (m := 0) (fun q => by omega), s_rl_f (m := m1 + 1) (fun q => by omega)]
  | m1 + 1, m2 + 1, k, h, h1, h2 => by
    by_cases q : k ≤ 20 ∧ b ≤ s_kc f p k * nI 100
    · rw [s_rl_t q.1 q.2, s_rl_t q.1 q.2, s_rl_fuel f p b m1 m2 (k + 1) (by omega) (by omega) (by omega)]
    · rw [s_rl_f q, s_rl_f q]
def s_ev (f : Nat → Int32) (j ev : Nat) : Nat := if ev = 0 then s_ad f (s_pt f j) else if ev = 1 then s_cu f (s_pt f j) else if ev = 2 then s_re f (s_pt f j) else s_cp f (s_pt f j)
def s_la (f : Nat → Int32) (j ev : Nat) : Int32 := if ev = 3 then -(nI (s_ev f j ev) - f (8 + 4 * s_en f j + ev)) else nI (s_ev f j ev) - f (8 + 4 * s_en f j + ev)
def s_of (f : Nat → Int32) (j : Nat) (d : Int32) : Int32 := nI 0 + s_size (s_la f j 0 - d) + s_size (s_la f j 1 - d) + s_size (s_la f j 2 - d) + s_size (s_la f j 3 - d)
def s_s1 (f : Nat → Int32) (j : Nat) (b : Int32) (k : Nat) : Int32 := if s_of f j (-nI k) < s_of f j b then -nI k else b
def s_s2 (f : Nat → Int32) (j : Nat) (b : Int32) (k : Nat) : Int32 := if s_of f j (nI k) < s_of f j b then nI k else b
def s_sl (f : Nat → Int32) (j : Nat) : Nat → Int32
  | 0 => nI 0
  | k + 1 => s_s2 f j (s_s1 f j (s_sl f j k) (k + 1)) (k + 1)
def s_lk (f p : Nat → Int32) : Int32 := if s_re f p - 1 ≤ s_cu f p ∨ s_kc f p (s_cu f p) = nI 0 then cNON else (s_quo ((s_kc f p (s_re f p - 1) - s_kc f p (s_cu f p)).toInt64 * (1000 : Int64)) (s_kc f p (s_cu f p)).toInt64).toInt32
theorem l_ne {x : Int32} (h : ¬ x = nI 0) : ¬ x.toInt64 = 0 := fun q => h ((fa_wide_eq x (nI 0)).mp q)
