def s_rmG (f : Nat → Int32) (j i : Nat) : Nat → Int32 := s_fl f (62 + 44 * j) (fun t => f (62 + 44 * j + t + 44)) i
def s_rmU (f : Nat → Int32) (j cn : Nat) : Nat → Int32 := upd (s_rmG f j (44 * (cn - 1 - j))) 61 (nI (cn - 1))
def s_rcF (f : Nat → Int32) (n cn : Nat) (v : Int32) : Nat → Int32 := if s_okC f v then s_rmU (s_rec f n) v.toNatClampNeg cn else f
def s_rcN (f : Nat → Int32) (n : Nat) (v : Int32) : Nat := if s_okC f v then s_recn n else n
def s_rcR (f : Nat → Int32) (cn : Nat) (v : Int32) : Int32 := if s_okC f v then nI (cn - 1) else cINV
def s_dk (f : Nat → Int32) (va vc vr lk : Int32) : Nat → Int64 × Int32
  | 0 => ((f 4).toInt64 * (f 0 + vc).toInt64, f 4)
  | i + 1 => if nI i < va then s_dk f va vc vr lk i else if nI i ≤ vc then s_dk f va vc vr lk i else if nI i < vr then ((s_dk f va vc vr lk i).1 + s_quo ((s_dk f va vc vr lk i).1 * lk.toInt64) (1000 : Int64), (((s_dk f va vc vr lk i).1 + s_quo ((s_dk f va vc vr lk i).1 * lk.toInt64) (1000 : Int64)) / (f 0 + nI i).toInt64).toInt32) else s_dk f va vc vr lk i
def s_do (f : Nat → Int32) (va vc vr lk : Int32) (i : Nat) : Int32 := if nI i < va then f 5 else if nI i ≤ vc then f 4 else if nI i < vr then (s_dk f va vc vr lk (i + 1)).2 else (s_dk f va vc vr lk i).2 + (s_quo ((f 5 - (s_dk f va vc vr lk i).2).toInt64 * (nI i - vr + nI 1).toInt64) (nI 21 - vr).toInt64).toInt32
def s_di (f : Nat → Int32) (vm : Int32) (i : Nat) : Int32 := if nI i < vm then f 5 * (f 0 + vm) / (f 0 + nI i) else f 5
def s_dw (f ho hi : Nat → Int32) (i : Nat) : Nat → Int32 := s_fl (s_fl f 2510 ho i) 2531 hi i
theorem s_dw_0 (f ho hi : Nat → Int32) : s_dw f ho hi 0 = f := by unfold s_dw; rw [s_fl_0, s_fl_0]
theorem s_dw_lo (f ho hi : Nat → Int32) (i : Nat) {j : Nat} (h : j < 2510) : s_dw f ho hi i j = f j := by unfold s_dw; rw [s_fl_out _ _ _ _ _ (by omega), s_fl_out _ _ _ _ _ (by omega)]
theorem s_dw_succ (f ho hi : Nat → Int32) {i : Nat} (h : i < 21) : upd (upd (s_dw f ho hi i) (2510 + i) (ho i)) (2531 + i) (hi i) = s_dw f ho hi (i + 1) := by
  unfold s_dw
  have h1 : upd (s_fl (s_fl f 2510 ho i) 2531 hi i) (2510 + i) (ho i) = s_fl (s_fl f 2510 ho (i + 1)) 2531 hi i := by
    rw [← s_fl_succ f 2510 ho i]
    funext j
    show (if j = 2510 + i then ho i else s_fl (s_fl f 2510 ho i) 2531 hi i j) = (if 2531 ≤ j ∧ j < 2531 + i then hi (j - 2531) else if j = 2510 + i then ho i else s_fl f 2510 ho i j)
    by_cases e : j = 2510 + i
    · rw [if_pos e, if_neg (by omega), if_pos e]
    · rw [if_neg e, if_neg e]
      rfl
  rw [h1, s_fl_succ]
def s_drU (f : Nat → Int32) (va vc vr vm lk : Int32) : Nat → Int32 := s_dw f (s_do f va vc vr lk) (s_di f vm) 21
/-- the volumes aren't 0 -/
def s_vol (f : Nat → Int32) : Prop := ∀ i, i < 21 → ¬ (f 0 + nI i) = 0 ∧ ¬ (f 0 + nI i).toInt64 = 0
section DK
variable {f : Nat → Int32} {va vc vr lk : Int32} {i : Nat}
theorem dk_a (h1 : nI i < va) : s_dk f va vc vr lk (i + 1) = s_dk f va vc vr lk i := by conv => { lhs; unfold s_dk }; rw [if_pos h1]
theorem dk_c (h1 : va ≤ nI i) (h2 : nI i ≤ vc) : s_dk f va vc vr lk (i + 1) = s_dk f va vc vr lk i := by conv => { lhs; unfold s_dk }; rw [if_neg (Int32.not_lt.mpr h1), if_pos h2]
theorem dk_x (h1 : va ≤ nI i) (h2 : vc < nI i) (h3 : nI i < vr) : s_dk f va vc vr lk (i + 1) = ((s_dk f va vc vr lk i).1 + s_quo ((s_dk f va vc vr lk i).1 * lk.toInt64) (1000 : Int64), (((s_dk f va vc vr lk i).1 + s_quo ((s_dk f va vc vr lk i).1 * lk.toInt64) (1000 : Int64)) / (f 0 + nI i).toInt64).toInt32) := by conv => { lhs; unfold s_dk }; rw [if_neg (Int32.not_lt.mpr h1), if_neg (Int32.not_le.mpr h2), if_pos h3]
theorem dk_r (h1 : va ≤ nI i) (h2 : vc < nI i) (h3 : vr ≤ nI i) : s_dk f va vc vr lk (i + 1) = s_dk f va vc vr lk i := by conv => { lhs; unfold s_dk }; rw [if_neg (Int32.not_lt.mpr h1), if_neg (Int32.not_le.mpr h2), if_neg (Int32.not_lt.mpr h3)]
theorem do_a (h1 : nI i < va) : s_do f va vc vr lk i = f 5 := by unfold s_do; rw [if_pos h1]
theorem do_c (h1 : va ≤ nI i) (h2 : nI i ≤ vc) : s_do f va vc vr lk i = f 4 := by unfold s_do; rw [if_neg (Int32.not_lt.mpr h1), if_pos h2]
theorem do_x (h1 : va ≤ nI i) (h2 : vc < nI i) (h3 : nI i < vr) : s_do f va vc vr lk i = (((s_dk f va vc vr lk i).1 + s_quo ((s_dk f va vc vr lk i).1 * lk.toInt64) (1000 : Int64)) / (f 0 + nI i).toInt64).toInt32 := by unfold s_do; rw [if_neg (Int32.not_lt.mpr h1), if_neg (Int32.not_le.mpr h2), if_pos h3, dk_x h1 h2 h3]
theorem do_r (h1 : va ≤ nI i) (h2 : vc < nI i) (h3 : vr ≤ nI i) : s_do f va vc vr lk i = (s_dk f va vc vr lk i).2 + (s_quo ((f 5 - (s_dk f va vc vr lk i).2).toInt64 * (nI i - vr + nI 1).toInt64) (nI 21 - vr).toInt64).toInt32 := by unfold s_do; rw [if_neg (Int32.not_lt.mpr h1), if_neg (Int32.not_le.mpr h2), if_neg (Int32.not_lt.mpr h3)]
theorem di_t {vm : Int32} (h : nI i < vm) : s_di f vm i = f 5 * (f 0 + vm) / (f 0 + nI i) := if_pos h
theorem di_f {vm : Int32} (h : vm ≤ nI i) : s_di f vm i = f 5 := if_neg (Int32.not_lt.mpr h)
end DK
