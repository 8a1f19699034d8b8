def s_quo (x y : Int64) : Int64 := x / y - (if x - x / y * y < lN 0 then lN 1 else lN 0)
def s_size (v : Int32) : Int32 := if v < nI 0 then -v else v
def s_fl (f : Nat → Int32) (b : Nat) (h : Nat → Int32) (k : Nat) : Nat → Int32 := fun j => if b ≤ j ∧ j < b + k then h (j - b) else f j
theorem s_fl_succ (f : Nat → Int32) (b : Nat) (h : Nat → Int32) (k : Nat) : upd (s_fl f b h k) (b + k) (h k) = s_fl f b h (k + 1) := by
  funext j
  unfold upd s_fl
  by_cases e : j = b + k
  · subst e; rw [if_pos rfl, if_pos ⟨by omega, by omega⟩, Nat.add_sub_cancel_left]
  · rw [if_neg e]
    by_cases e2 : b ≤ j ∧ j < b + k
    · rw [if_pos e2, if_pos ⟨e2.1, by omega⟩]
    · rw [if_neg e2, if_neg (fun q => e2 ⟨q.1, by omega⟩)]
theorem s_fl_out (f : Nat → Int32) (b : Nat) (h : Nat → Int32) (k j : Nat) (hj : j < b ∨ b + k ≤ j) : s_fl f b h k j = f j := if_neg (by omega)
theorem s_fl_in (f : Nat → Int32) (b : Nat) (h : Nat → Int32) (k i : Nat) (hi : i < k) : s_fl f b h k (b + i) = h i := by unfold s_fl; rw [if_pos ⟨by omega, by omega⟩, Nat.add_sub_cancel_left]
theorem s_fl_0 (f : Nat → Int32) (b : Nat) (h : Nat → Int32) : s_fl f b h 0 = f := by funext j; exact if_neg (by omega)
theorem upd_at (f : Nat → Int32) (k : Nat) (x : Int32) : upd f k x k = x := if_pos rfl
theorem upd_ne (f : Nat → Int32) (k : Nat) (x : Int32) (j : Nat) (h : j ≠ k) : upd f k x j = f j := if_neg h
theorem in_nat {x : Int32} {n : Nat} (hn : n < 2 ^ 31) (h : nI 0 ≤ x ∧ x ≤ nI n) : ∃ j : Nat, j ≤ n ∧ x = nI j :=
  nI_of2 (M := nI n) (nI_toInt hn) (Int32.not_lt.mpr h.1) h.2
/-- a block of 502 copied -/
abbrev s_cpy (f : Nat → Int32) (a b k : Nat) : Nat → Int32 := s_fl f b (fun i => f (a + i)) k
def s_rec (f : Nat → Int32) (n : Nat) : Nat → Int32 := if n = 4 then s_cpy (s_cpy (s_cpy (s_cpy f 1004 502 502) 1506 1004 502) 2008 1506 502) 0 2008 502 else s_cpy f 0 (502 + 502 * n) 502
def s_recn (n : Nat) : Nat := if n = 4 then 4 else n + 1
abbrev cINV : Int32 := -2000000001
abbrev cILL : Int32 := -2000000002
abbrev cCAP : Int32 := -2000000003
abbrev cNON : Int32 := -2000000004
def s_df (p : Nat → Int32) (k : Nat) : Int32 := p k - p (21 + k)
def s_ar (p : Nat → Int32) : Nat → Int32
  | 0 => nI 0
  | k + 1 => s_ar p k + (s_df p k + s_df p (k + 1))
def s_undf (f : Nat → Int32) (n : Nat) : Nat → Int32 := if n = 0 then f else s_cpy f (502 + 502 * (n - 1)) 0 502
def s_undr (n : Nat) : Int32 := if n = 0 then cILL else nI (n - 1)
def s_putr (f : Nat → Int32) (n a : Nat) (P : Prop) [Decidable P] : Int32 := if P then s_rec f n a else cINV
def s_putf (f : Nat → Int32) (n a : Nat) (P : Prop) [Decidable P] (x : Int32) : Nat → Int32 := if P then upd (s_rec f n) a x else f
def s_putn (n : Nat) (P : Prop) [Decidable P] : Nat := if P then s_recn n else n
abbrev s_okPA (en v : Int32) : Prop := (nI 0 ≤ en ∧ en ≤ nI 1) ∧ (nI 1 ≤ v ∧ v ≤ nI 5000)
abbrev s_plPA (en : Int32) : Nat := if en = nI 1 then 2 else 1
theorem s_put_t {f : Nat → Int32} {n a b : Nat} {P Q : Prop} [Decidable P] [Decidable Q] {x : Int32} (ha : a = b) (h : P ↔ Q) : s_putr f n a P = s_putr f n b Q ∧ s_putf f n a P x = s_putf f n b Q x ∧ s_putn n P = s_putn n Q := by
  subst ha
  unfold s_putr s_putf s_putn
  by_cases hp : P
  · rw [if_pos hp, if_pos hp, if_pos hp, if_pos (h.mp hp), if_pos (h.mp hp), if_pos (h.mp hp)]; exact ⟨rfl, rfl, rfl⟩
  · rw [if_neg hp, if_neg hp, if_neg hp, if_neg (fun q => hp (h.mpr q)), if_neg (fun q => hp (h.mpr q)), if_neg (fun q => hp (h.mpr q))]; exact ⟨rfl, rfl, rfl⟩
