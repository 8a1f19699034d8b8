theorem r_ok {vr : Int32} (h1 : nI 2 ≤ vr) (h2 : vr ≤ nI 20) : ¬ (nI 21 - vr).toInt64 = 0 := by
  obtain ⟨j, hj, rfl⟩ := in_nat (x := vr) (n := 20) (by decide) ⟨Int32.le_trans (by decide) h1, h2⟩
  rw [pk_sub (by omega)]
  exact l_ne0 (by omega) (by omega)
theorem s_vol_eq {f F : Nat → Int32} (h : F 0 = f 0) (hv : s_vol f) : s_vol F := by unfold s_vol; rw [h]; exact hv
abbrev s_okI (en sp sh lk : Int32) : Prop := (nI 0 ≤ en ∧ en ≤ nI 1) ∧ (nI 1 ≤ sp ∧ sp ≤ nI 600) ∧ ((-3 : Int32) ≤ sh ∧ sh ≤ nI 3) ∧ ((-20 : Int32) ≤ lk ∧ lk ≤ nI 20)
abbrev s_iv (f : Nat → Int32) (j ev : Nat) : Int32 := f (8 + 4 * j + ev)
abbrev s_exI (f : Nat → Int32) (j : Nat) (sh : Int32) : Prop := (nI 0 ≤ s_iv f j 0 + sh ∧ s_iv f j 0 + sh ≤ nI 8) ∧ (nI 1 ≤ s_iv f j 1 + sh ∧ s_iv f j 1 + sh ≤ nI 19) ∧ (nI 2 ≤ s_iv f j 2 + sh ∧ s_iv f j 2 + sh ≤ nI 20) ∧ (nI 0 ≤ s_iv f j 3 - sh ∧ s_iv f j 3 - sh ≤ nI 19)
def s_aiU (f : Nat → Int32) (n cn j : Nat) (en sp sh lk : Int32) : Nat → Int32 := s_acU (s_drU (s_rec f n) (s_iv f j 0 + sh) (s_iv f j 1 + sh) (s_iv f j 2 + sh) (s_iv f j 3 - sh) lk) cn en sp
abbrev s_aiP (f : Nat → Int32) (cn : Nat) (en sp sh lk : Int32) : Prop := s_okI en sp sh lk ∧ s_exI f en.toNatClampNeg sh ∧ ¬ cn = 10
def s_aiR (f : Nat → Int32) (cn : Nat) (en sp sh lk : Int32) : Int32 := if s_okI en sp sh lk then (if s_exI f en.toNatClampNeg sh then (if cn = 10 then cCAP else nI cn) else cILL) else cINV
def s_aiF (f : Nat → Int32) (n cn : Nat) (en sp sh lk : Int32) : Nat → Int32 := if s_aiP f cn en sp sh lk then s_aiU f n cn en.toNatClampNeg en sp sh lk else f
def s_aiN (f : Nat → Int32) (n cn : Nat) (en sp sh lk : Int32) : Nat := if s_aiP f cn en sp sh lk then s_recn n else n
abbrev s_ibF (f : Nat → Int32) (j : Nat) (co : Int32) : Nat → Int32 := s_drU f (s_iv f j 0) co (s_iv f j 2) (s_iv f j 3) (nI 0)
def s_ibR (f : Nat → Int32) (j : Nat) (co : Int32) : Int32 := s_ar (fun k => s_ibF f j co (2510 + k)) 20
theorem s_ibF_lo (f : Nat → Int32) (j : Nat) (co : Int32) {i : Nat} (h : i < 2510) : s_ibF f j co i = f i := by unfold s_ibF s_drU; exact s_dw_lo _ _ _ _ h
theorem s_ar_eq {a b : Nat → Int32} : ∀ m, m ≤ 20 → (∀ k, k < 42 → a k = b k) → s_ar a m = s_ar b m
  | 0, _, _ => rfl
  | m + 1, hm, h => by
    unfold s_ar s_df
    rw [s_ar_eq m (by omega) h, h m (by omega), h (21 + m) (by omega), h (m + 1) (by omega), h (21 + (m + 1)) (by omega)]
/-- the pressures of an ideal card -/
def s_ip (f : Nat → Int32) (va vc vr vm lk : Int32) : Nat → Int32 := fun k => if k < 21 then s_do f va vc vr lk k else s_di f vm (k - 21)
theorem s_drU_at (f : Nat → Int32) (va vc vr vm lk : Int32) {k : Nat} (h : k < 42) : s_drU f va vc vr vm lk (2510 + k) = s_ip f va vc vr vm lk k := by
  unfold s_drU s_dw s_ip
  by_cases e : k < 21
  · rw [s_fl_out _ _ _ _ _ (by omega), s_fl_in _ _ _ _ _ e, if_pos e]
  · rw [if_neg e, show 2510 + k = 2531 + (k - 21) by omega, s_fl_in _ _ _ _ _ (by omega)]
theorem s_dk_eq {f F : Nat → Int32} (h : ∀ j, j < 2510 → F j = f j) (va vc vr lk : Int32) : ∀ i, s_dk F va vc vr lk i = s_dk f va vc vr lk i
  | 0 => by unfold s_dk; rw [h 4 (by omega), h 0 (by omega)]
  | i + 1 => by
    have ih := s_dk_eq h va vc vr lk i
    unfold s_dk
    rw [ih, h 0 (by omega)]
theorem s_ip_eq {f F : Nat → Int32} (h : ∀ j, j < 2510 → F j = f j) (va vc vr vm lk : Int32) (k : Nat) : s_ip F va vc vr vm lk k = s_ip f va vc vr vm lk k := by
  unfold s_ip s_do s_di
  rw [s_dk_eq h, s_dk_eq h, h 5 (by omega), h 4 (by omega), h 0 (by omega)]
theorem s_ibR_ip (f : Nat → Int32) (j : Nat) (co : Int32) : s_ibR f j co = s_ar (s_ip f (s_iv f j 0) co (s_iv f j 2) (s_iv f j 3) (nI 0)) 20 := s_ar_eq 20 (by omega) (fun k hk => s_drU_at _ _ _ _ _ _ hk)
theorem s_ibR_eq {f F : Nat → Int32} (h : ∀ j, j < 2510 → F j = f j) {j : Nat} (hj : j ≤ 1) (co : Int32) : s_ibR F j co = s_ibR f j co := by
  rw [s_ibR_ip, s_ibR_ip]
  unfold s_iv
  rw [h (8 + 4 * j + 0) (by omega), h (8 + 4 * j + 2) (by omega), h (8 + 4 * j + 3) (by omega)]
  exact s_ar_eq 20 (by omega) (fun k _ => s_ip_eq h _ _ _ _ _ k)
theorem s_pw_eq {f F : Nat → Int32} (h : ∀ j, j < 2510 → F j = f j) (a : Int32) {en : Nat} (he : en ≤ 1) (sp : Int32) : s_pw F a en sp = s_pw f a en sp := by unfold s_pw; rw [h (1 + en) (by omega), h 3 (by omega)]
/-- the release of a valve setting -/
def s_vr (f : Nat → Int32) (j : Nat) : Prop := nI 2 ≤ s_iv f j 2 ∧ s_iv f j 2 ≤ nI 20
theorem s_vr_eq {f F : Nat → Int32} (h : ∀ j, j < 2510 → F j = f j) {j : Nat} (hj : j ≤ 1) (hv : s_vr f j) : s_vr F j := by unfold s_vr s_iv; rw [h _ (by omega)]; exact hv
def s_iaR (f : Nat → Int32) (en : Int32) : Int32 := if nI 0 ≤ en ∧ en ≤ nI 1 then s_ibR f en.toNatClampNeg (s_iv f en.toNatClampNeg 1) else cINV
abbrev s_can (f : Nat → Int32) (j : Nat) (co : Int32) : Prop := s_iv f j 0 < co ∧ co < s_iv f j 2
def s_bc (f : Nat → Int32) (j : Nat) (w : Int32) : Nat → Nat × Int32
  | 0 => (0, nI 0)
  | i + 1 => if s_can f j (nI (i + 1)) ∧ ((s_bc f j w i).1 = 0 ∨ s_size (s_ibR f j (nI (i + 1)) - w) < (s_bc f j w i).2) then (i + 1, s_size (s_ibR f j (nI (i + 1)) - w)) else s_bc f j w i
theorem s_bc_t {f : Nat → Int32} {j i : Nat} {w : Int32} (h1 : s_can f j (nI (i + 1))) (h2 : (s_bc f j w i).1 = 0 ∨ s_size (s_ibR f j (nI (i + 1)) - w) < (s_bc f j w i).2) : s_bc f j w (i + 1) = (i + 1, s_size (s_ibR f j (nI (i + 1)) - w)) := by conv => { lhs; unfold s_bc }; rw [if_pos ⟨h1, h2⟩]
theorem s_bc_f {f : Nat → Int32} {j i : Nat} {w : Int32} (h : ¬ (s_can f j (nI (i + 1)) ∧ ((s_bc f j w i).1 = 0 ∨ s_size (s_ibR f j (nI (i + 1)) - w) < (s_bc f j w i).2))) : s_bc f j w (i + 1) = s_bc f j w i := by conv => { lhs; unfold s_bc }; rw [if_neg h]
theorem s_can_eq {f F : Nat → Int32} (h : ∀ j, j < 2510 → F j = f j) {j : Nat} (hj : j ≤ 1) (co : Int32) : s_can F j co ↔ s_can f j co := by unfold s_can s_iv; rw [h _ (by omega), h _ (by omega)]
theorem s_canb {f F : Nat → Int32} (h : ∀ j, j < 2510 → F j = f j) {j : Nat} (hj : j ≤ 1) (co : Int32) : (if s_can F j co then (1 : Int32) else 0) = if s_can f j co then 1 else 0 := by unfold s_can s_iv; rw [h _ (by omega), h _ (by omega)]
def s_bcoR (f : Nat → Int32) (en w : Int32) : Int32 := if (nI 0 ≤ en ∧ en ≤ nI 1) ∧ ((-200000 : Int32) ≤ w ∧ w ≤ nI 200000) then nI (s_bc f en.toNatClampNeg w 18).1 else cINV
def s_abl (v : Int64) : Int64 := if v < lN 0 then -v else v
def s_bl (f : Nat → Int32) (w : Int64) : Nat → Nat × Int64
  | 0 => (0, lN 0)
  | i + 1 => if s_can f 1 (nI (i + 1)) ∧ ((s_bl f w i).1 = 0 ∨ s_abl (s_pw f (s_ibR f 1 (nI (i + 1))) 1 (nI 60) - w) < (s_bl f w i).2) then (i + 1, s_abl (s_pw f (s_ibR f 1 (nI (i + 1))) 1 (nI 60) - w)) else s_bl f w i
theorem s_bl_t {f : Nat → Int32} {i : Nat} {w : Int64} (h1 : s_can f 1 (nI (i + 1))) (h2 : (s_bl f w i).1 = 0 ∨ s_abl (s_pw f (s_ibR f 1 (nI (i + 1))) 1 (nI 60) - w) < (s_bl f w i).2) : s_bl f w (i + 1) = (i + 1, s_abl (s_pw f (s_ibR f 1 (nI (i + 1))) 1 (nI 60) - w)) := by conv => { lhs; unfold s_bl }; rw [if_pos ⟨h1, h2⟩]
theorem s_bl_f {f : Nat → Int32} {i : Nat} {w : Int64} (h : ¬ (s_can f 1 (nI (i + 1)) ∧ ((s_bl f w i).1 = 0 ∨ s_abl (s_pw f (s_ibR f 1 (nI (i + 1))) 1 (nI 60) - w) < (s_bl f w i).2))) : s_bl f w (i + 1) = s_bl f w i := by conv => { lhs; unfold s_bl }; rw [if_neg h]
def s_baW (f : Nat → Int32) : Int64 := s_pw f (s_ibR f 0 (s_iv f 0 1)) 0 (nI 60)
def s_baR (f : Nat → Int32) : Int32 := nI (s_bl f (s_baW f) 18).1
