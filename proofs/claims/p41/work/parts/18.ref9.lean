def s_mn (f : Nat → Int32) (en : Int32) : Nat → Nat
  | 0 => 0
  | k + 1 => s_mn f en k + (if f (62 + 44 * k) = en then 1 else 0)
theorem s_mn_le (f : Nat → Int32) (en : Int32) : ∀ k, s_mn f en k ≤ k
  | 0 => Nat.le_refl _
  | k + 1 => by
    have h := s_mn_le f en k
    unfold s_mn
    split <;> omega
def s_sc (f : Nat → Int32) (en : Int32) (t : Nat) : Nat → Int32
  | 0 => nI 0
  | k + 1 => s_sc f en t k + (if f (62 + 44 * k) = en then s_pt f k t else nI 0)
def s_mv (f : Nat → Int32) (en : Int32) (cn : Nat) (t : Nat) : Int32 := s_sc f en t cn / nI (s_mn f en cn)
def s_sp (f : Nat → Int32) (en : Int32) : Nat → Int64
  | 0 => lN 0
  | k + 1 => s_sp f en k + (if f (62 + 44 * k) = en then s_pc f k else lN 0)
def s_mp (f : Nat → Int32) (en : Int32) (cn : Nat) : Int64 := s_quo (s_sp f en cn) (nI (s_mn f en cn)).toInt64
def s_im (f : Nat → Int32) (cn : Nat) : Int32 := if s_mn f (nI 0) cn = 0 ∨ s_mn f (nI 1) cn = 0 then cNON else if s_mp f (nI 0) cn < lN 0 ∨ s_mp f (nI 1) cn < lN 0 ∨ s_mp f (nI 0) cn + s_mp f (nI 1) cn = lN 0 then cNON else ((if s_mp f (nI 0) cn < s_mp f (nI 1) cn then s_mp f (nI 1) cn - s_mp f (nI 0) cn else s_mp f (nI 0) cn - s_mp f (nI 1) cn) * (1000 : Int64) / (s_mp f (nI 0) cn + s_mp f (nI 1) cn)).toInt32
def s_maR (f : Nat → Int32) (en : Int32) (cn : Nat) : Int32 := if nI 0 ≤ en ∧ en ≤ nI 1 then (if s_mn f en cn = 0 then cNON else s_ar (s_mv f en cn) 20) else cINV
theorem s_mv_at (f : Nat → Int32) (h : Nat → Int32) : s_ar (fun k => s_fl f 2510 h 42 (2510 + k)) 20 = s_ar h 20 := s_ar_eq 20 (by omega) (fun k hk => s_fl_in _ _ _ _ _ hk)
