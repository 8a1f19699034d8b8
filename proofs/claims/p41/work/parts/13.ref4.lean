def s_ls (p : Nat → Int32) : Nat → Int32
  | 0 => nI 0
  | k + 1 => s_ls p k ||| (if s_df p k < nI 0 then nI 1 <<< (nI k &&& 31) else nI 0)
def s_pw (f : Nat → Int32) (a : Int32) (en : Nat) (sp : Int32) : Int64 := s_quo (a.toInt64 * (f (1 + en)).toInt64 * (f 3).toInt64 * sp.toInt64) (2400000 : Int64)
def s_en (f : Nat → Int32) (j : Nat) : Nat := (f (62 + 44 * j)).toNatClampNeg
def s_pc (f : Nat → Int32) (j : Nat) : Int64 := s_pw f (s_ar (s_pt f j) 20) (s_en f j) (f (62 + 44 * j + 1))
theorem s_rec_lo (f : Nat → Int32) (n : Nat) {j : Nat} (h : j < 502) : s_rec f n j = f j := by
  unfold s_rec s_cpy
  split
  · rw [s_fl_out _ _ _ _ _ (by omega), s_fl_out _ _ _ _ _ (by omega), s_fl_out _ _ _ _ _ (by omega), s_fl_out _ _ _ _ _ (by omega)]
  · rw [s_fl_out _ _ _ _ _ (by omega)]
theorem s_rec_hi (f : Nat → Int32) (n : Nat) (hn : n ≤ 4) {j : Nat} (h : 2510 ≤ j) : s_rec f n j = f j := by
  unfold s_rec s_cpy
  split
  · rw [s_fl_out _ _ _ _ _ (by omega), s_fl_out _ _ _ _ _ (by omega), s_fl_out _ _ _ _ _ (by omega), s_fl_out _ _ _ _ _ (by omega)]
  · rw [s_fl_out _ _ _ _ _ (by omega)]
def s_acG (f : Nat → Int32) (cn : Nat) (e0 sp : Int32) (i : Nat) : Nat → Int32 := s_fl (upd (upd f (62 + 44 * cn) e0) (62 + 44 * cn + 1) sp) (62 + 44 * cn + 2) (fun t => f (2510 + t)) i
def s_acU (f : Nat → Int32) (cn : Nat) (e0 sp : Int32) : Nat → Int32 := upd (s_acG f cn e0 sp 42) 61 (nI (cn + 1))
abbrev s_p01 (f : Nat → Int32) (st : Nat) : Nat → Int32 := fun k => f (19 + 21 * st + k)
abbrev s_okF (f : Nat → Int32) : Prop := ¬ f 16 = nI 0 ∧ ¬ s_cnt (s_p01 f 0) 21 = 0 ∧ ¬ s_cnt (s_p01 f 1) 21 = 0
def s_fcD (f : Nat → Int32) : Nat → Int32 := fun k => s_dr (s_p01 f (k / 21)) (k % 21)
def s_fcG (f : Nat → Int32) (n : Nat) (i : Nat) : Nat → Int32 := s_fl (s_rec f n) 2510 (s_fcD f) i
def s_fcU (f : Nat → Int32) (n cn : Nat) : Nat → Int32 := s_acU (upd (s_fcG f n 42) 16 (nI 0)) cn (f 17) (f 18)
def s_fcR (f : Nat → Int32) (cn : Nat) : Int32 := if s_okF f then (if cn = 10 then cCAP else nI cn) else cILL
def s_fcF (f : Nat → Int32) (n cn : Nat) : Nat → Int32 := if s_okF f ∧ ¬ cn = 10 then s_fcU f n cn else f
def s_fcN (f : Nat → Int32) (n cn : Nat) : Nat := if s_okF f ∧ ¬ cn = 10 then s_recn n else n
theorem s_fcG_lo (f : Nat → Int32) (n i : Nat) {j : Nat} (h : j < 502) : s_fcG f n i j = f j := by unfold s_fcG; rw [s_fl_out _ _ _ _ _ (by omega), s_rec_lo _ _ h]
theorem s_p01_eq {f F : Nat → Int32} {st : Nat} (hst : st ≤ 1) (h : ∀ j, j < 502 → F j = f j) : ∀ k, k < 21 → s_p01 F st k = s_p01 f st k := fun k hk => h _ (by omega)
theorem s_dn_eq {a b : Nat → Int32} : ∀ k, (∀ i, i < k → a i = b i) → s_dn a k = s_dn b k
  | 0, _ => rfl
  | k + 1, h => by unfold s_dn; rw [h k (by omega), s_dn_eq k (fun i hi => h i (by omega))]
theorem s_up_eq {a b : Nat → Int32} : ∀ m k, (∀ i, i < k + m → a i = b i) → s_up a m k = s_up b m k
  | 0, _, _ => rfl
  | m + 1, k, h => by unfold s_up; rw [h k (by omega), s_up_eq m (k + 1) (fun i hi => h i (by omega))]
theorem s_dr_eq {a b : Nat → Int32} {k : Nat} (hk : k ≤ 20) (h : ∀ i, i < 22 → a i = b i) : s_dr a k = s_dr b k := by
  unfold s_dr
  rw [s_dn_eq (k + 1) (fun i hi => h i (by omega)), s_up_eq (21 - k) k (fun i hi => h i (by omega))]
  have h1 := s_dn_le b (k + 1)
  have h2 := s_up_in b (21 - k) k
  unfold s_drw
  rw [h _ (show s_up b (21 - k) k < 22 by omega), h _ (show s_dn b (k + 1) - 1 < 22 by omega)]
  by_cases e : s_dn b (k + 1) = 0
  · rw [if_pos e, h _ (show s_up b (21 - k) k < 22 by omega)]
  · rw [if_neg e, h _ (show s_dn b (k + 1) - 1 < 22 by omega)]
