abbrev s_okC (f : Nat → Int32) (v : Int32) : Prop := nI 0 ≤ v ∧ v ≤ f 61 - nI 1
theorem in_card {f : Nat → Int32} {cn : Nat} {v : Int32} (hcn : cn ≤ 10) (hc : f 61 = nI cn) (h : s_okC f v) : ∃ j : Nat, j < cn ∧ v = nI j := by
  obtain ⟨h1, h2⟩ := h
  rw [hc] at h2
  cases cn with
  | zero =>
    have h3 : nI 0 ≤ nI 0 - nI 1 := Int32.le_trans h1 h2
    exact absurd h3 (by decide)
  | succ k =>
    rw [show nI (k + 1) - nI 1 = nI k from nI_pred k] at h2
    obtain ⟨j, hj, e⟩ := in_nat (x := v) (n := k) (by omega) ⟨h1, h2⟩
    exact ⟨j, by omega, e⟩
abbrev s_pt (f : Nat → Int32) (j : Nat) : Nat → Int32 := fun k => f (62 + 44 * j + 2 + k)
def s_part (x y : Int32) (P : Prop) [Decidable P] : Int32 := if nI 0 ≤ x ∧ nI 0 ≤ y then (if P then x + y else nI 0) else if x ≤ nI 0 ∧ y ≤ nI 0 then (if P then nI 0 else -x - y) else if nI 0 < x then (if P then x * x / (x + -y) else -y * -y / (x + -y)) else (if P then y * y / (y + -x) else -x * -x / (y + -x))
def rg (x : Int32) : Prop := -5000 ≤ x.toInt ∧ x.toInt ≤ 5000
theorem part_nz {x y : Int32} (hx : rg x) (hy : rg y) (h1 : nI 0 < x) (h2 : y < nI 0) : ¬ x + -y = 0 := by
  intro h
  have h3 := congrArg Int32.toInt h
  have hz : (nI 0).toInt = 0 := rfl
  rw [Int32.lt_iff_toInt_lt, hz] at h1 h2
  obtain ⟨a1, a2⟩ := hx
  obtain ⟨b1, b2⟩ := hy
  have hn : (-y).toInt = -y.toInt := fb_negI (by omega)
  rw [fb_addI (by omega) (by omega), hn] at h3
  have : (0 : Int32).toInt = 0 := rfl
  omega
def s_pa (p : Nat → Int32) (P : Prop) [Decidable P] : Nat → Int32
  | 0 => nI 0
  | k + 1 => s_pa p P k + s_part (s_df p k) (s_df p (k + 1)) P
