def s_seR (f : Nat → Int32) (n : Nat) (b t : Int32) : Int32 := if (nI 1 ≤ b ∧ b ≤ nI 100) ∧ (nI 1 ≤ t ∧ t ≤ nI 50) then nI 100 * s_rec f n 6 + s_rec f n 7 else cINV
def s_seF (f : Nat → Int32) (n : Nat) (b t : Int32) : Nat → Int32 := if (nI 1 ≤ b ∧ b ≤ nI 100) ∧ (nI 1 ≤ t ∧ t ≤ nI 50) then upd (upd (s_rec f n) 6 b) 7 t else f
def s_seN (n : Nat) (b t : Int32) : Nat := if (nI 1 ≤ b ∧ b ≤ nI 100) ∧ (nI 1 ≤ t ∧ t ≤ nI 50) then s_recn n else n
abbrev s_okV (en a c r m : Int32) : Prop := ((nI 0 ≤ en ∧ en ≤ nI 1) ∧ (nI 0 ≤ a ∧ a ≤ nI 5) ∧ (nI 1 ≤ c ∧ c ≤ nI 18) ∧ (nI 2 ≤ r ∧ r ≤ nI 20) ∧ (nI 0 ≤ m ∧ m ≤ nI 19)) ∧ a < c ∧ c < r
def s_svR (en a c r m : Int32) : Int32 := if s_okV en a c r m then nI 0 else cINV
def s_svU (f : Nat → Int32) (j : Nat) (a c r m : Int32) : Nat → Int32 := upd (upd (upd (upd f (8 + 4 * j) a) (8 + 4 * j + 1) c) (8 + 4 * j + 2) r) (8 + 4 * j + 3) m
def s_svF (f : Nat → Int32) (n : Nat) (en a c r m : Int32) : Nat → Int32 := if s_okV en a c r m then s_svU (s_rec f n) en.toNatClampNeg a c r m else f
def s_svN (n : Nat) (en a c r m : Int32) : Nat := if s_okV en a c r m then s_recn n else n
def s_vaR (f : Nat → Int32) (en ev : Int32) : Int32 := if (nI 0 ≤ en ∧ en ≤ nI 1) ∧ (nI 0 ≤ ev ∧ ev ≤ nI 3) then f (8 + 4 * en.toNatClampNeg + ev.toNatClampNeg) else cINV
def s_bcU (f : Nat → Int32) (en sp : Int32) : Nat → Int32 := s_fl (upd (upd (upd f 16 (nI 1)) 17 en) 18 sp) 19 (fun _ => nI 0) 42
abbrev s_okB (en sp : Int32) : Prop := (nI 0 ≤ en ∧ en ≤ nI 1) ∧ (nI 1 ≤ sp ∧ sp ≤ nI 600)
def s_bcR (f : Nat → Int32) (n : Nat) (en sp : Int32) : Int32 := if s_okB en sp then s_rec f n 16 else cINV
def s_bcF (f : Nat → Int32) (n : Nat) (en sp : Int32) : Nat → Int32 := if s_okB en sp then s_bcU (s_rec f n) en sp else f
def s_bcN (n : Nat) (en sp : Int32) : Nat := if s_okB en sp then s_recn n else n
def s_cnt (p : Nat → Int32) : Nat → Nat
  | 0 => 0
  | k + 1 => s_cnt p k + (if p k ≤ nI 0 then 0 else 1)
theorem s_cnt_le (p : Nat → Int32) : ∀ k, s_cnt p k ≤ k
  | 0 => Nat.le_refl 0
  | k + 1 => by
    have h := s_cnt_le p k
    unfold s_cnt
    split <;> omega
abbrev s_okP (st sa pr : Int32) : Prop := (nI 0 ≤ st ∧ st ≤ nI 1) ∧ (nI 0 ≤ sa ∧ sa ≤ nI 20) ∧ (nI 0 ≤ pr ∧ pr ≤ nI 5000)
def s_spU (f : Nat → Int32) (j k : Nat) (pr : Int32) : Nat → Int32 := upd f (19 + 21 * j + k) (pr + nI 1)
def s_spR (f : Nat → Int32) (n : Nat) (st sa pr : Int32) : Int32 := if s_okP st sa pr then (if f 16 = nI 0 then cILL else nI (s_cnt (fun k => s_spU (s_rec f n) st.toNatClampNeg sa.toNatClampNeg pr (19 + 21 * st.toNatClampNeg + k)) 21)) else cINV
def s_spF (f : Nat → Int32) (n : Nat) (st sa pr : Int32) : Nat → Int32 := if s_okP st sa pr ∧ ¬ f 16 = nI 0 then s_spU (s_rec f n) st.toNatClampNeg sa.toNatClampNeg pr else f
def s_spN (f : Nat → Int32) (n : Nat) (st sa pr : Int32) : Nat := if s_okP st sa pr ∧ ¬ f 16 = nI 0 then s_recn n else n
def s_dn (p : Nat → Int32) : Nat → Nat
  | 0 => 0
  | k + 1 => if p k = nI 0 then s_dn p k else k + 1
def s_up (p : Nat → Int32) : Nat → Nat → Nat
  | 0, k => k
  | m + 1, k => if p k = nI 0 then s_up p m (k + 1) else k
theorem s_dn_le (p : Nat → Int32) : ∀ k, s_dn p k ≤ k
  | 0 => Nat.le_refl 0
  | k + 1 => by
    have h := s_dn_le p k
    unfold s_dn
    split <;> omega
theorem s_up_in (p : Nat → Int32) : ∀ m k, k ≤ s_up p m k ∧ s_up p m k ≤ k + m
  | 0, k => ⟨Nat.le_refl _, Nat.le_refl _⟩
  | m + 1, k => by
    have h := s_up_in p m (k + 1)
    unfold s_up
    split <;> omega
def s_drw (p : Nat → Int32) (st d u : Nat) : Int32 := if d = 0 ∨ 20 < u ∨ d = u + 1 then p (if d = 0 then u else d - 1) - nI 1 else p (d - 1) - nI 1 + (s_quo ((p u - p (d - 1)).toInt64 * (nI (st - (d - 1))).toInt64) (nI (u - (d - 1))).toInt64).toInt32
def s_dr (p : Nat → Int32) (st : Nat) : Int32 := s_drw p st (s_dn p (st + 1)) (s_up p (21 - st) st)
theorem l_ne0 {n : Nat} (h0 : 0 < n) (h : n < 2 ^ 31) : ¬ (nI n).toInt64 = 0 := by
  rw [nI_l h]
  intro e
  have := (lN_eq h (show 0 < 2 ^ 31 by decide)).mp (show lN n = lN 0 from e)
  omega
theorem pd_lt {x : Nat} (h : x < 2 ^ 31) : nI x + (-1) < 0 ↔ x = 0 := by
  cases x with
  | zero => exact ⟨fun _ => rfl, fun _ => by decide⟩
  | succ y => rw [pk_m1]; exact ⟨fun q => absurd q (nI_pos (by omega)), fun q => absurd q (by omega)⟩
theorem pd_ge {x : Nat} (h : x < 2 ^ 31) : 0 ≤ nI x + (-1) ↔ ¬ x = 0 := by
  rw [← Int32.not_lt, pd_lt h]

