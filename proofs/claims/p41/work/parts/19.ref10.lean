abbrev s_A (f : Nat → Int32) (j : Nat) : Int32 := s_ar (s_pt f j) 20
def s_le (f : Nat → Int32) (en : Int32) (j : Nat) : Nat → Nat
  | 0 => 0
  | w + 1 => s_le f en j w + (if f (62 + 44 * w) = en ∧ s_A f w < s_A f j then 1 else 0)
def s_sa (f : Nat → Int32) (en : Int32) (j : Nat) : Nat → Nat
  | 0 => 0
  | w + 1 => s_sa f en j w + (if f (62 + 44 * w) = en ∧ s_A f w = s_A f j then 1 else 0)
theorem s_le_le (f : Nat → Int32) (en : Int32) (j : Nat) : ∀ w, s_le f en j w ≤ w
  | 0 => Nat.le_refl _
  | w + 1 => by
    have h := s_le_le f en j w
    unfold s_le
    split <;> omega
theorem s_sa_le (f : Nat → Int32) (en : Int32) (j : Nat) : ∀ w, s_sa f en j w ≤ w
  | 0 => Nat.le_refl _
  | w + 1 => by
    have h := s_sa_le f en j w
    unfold s_sa
    split <;> omega
abbrev s_inm (f : Nat → Int32) (en : Int32) (pl cn j : Nat) : Prop := nI (s_le f en j cn) ≤ nI pl ∧ nI pl ≤ nI (s_le f en j cn + s_sa f en j cn) - nI 1
def s_md (f : Nat → Int32) (en : Int32) (pl cn : Nat) : Nat → Int32
  | 0 => nI 0
  | j + 1 => if f (62 + 44 * j) = en ∧ s_inm f en pl cn j then s_A f j else s_md f en pl cn j
def s_mdn (f : Nat → Int32) (en : Int32) (cn : Nat) : Int32 := s_md f en ((s_mn f en cn - 1) / 2) cn cn
abbrev s_out (en pct md : Int32) (F : Nat → Int32) (x : Nat) : Prop := F (62 + 44 * x) = en ∧ pct * s_size md < s_size (s_A F x - md) * nI 100
def s_ro (en pct md : Int32) : Nat → (Nat → Int32) → Nat → Nat → (Nat → Int32) × Nat
  | 0, F, _, rc => (F, rc)
  | x + 1, F, ct, rc => if s_out en pct md F x then s_ro en pct md x (s_rmU F x ct) (ct - 1) (rc + 1) else s_ro en pct md x F ct rc
theorem s_ro_t {en pct md : Int32} {x ct rc : Nat} {F : Nat → Int32} (h : s_out en pct md F x) : s_ro en pct md (x + 1) F ct rc = s_ro en pct md x (s_rmU F x ct) (ct - 1) (rc + 1) := if_pos h
theorem s_ro_f {en pct md : Int32} {x ct rc : Nat} {F : Nat → Int32} (h : ¬ s_out en pct md F x) : s_ro en pct md (x + 1) F ct rc = s_ro en pct md x F ct rc := if_neg h
abbrev s_okO (f : Nat → Int32) (en pct : Int32) (cn : Nat) : Prop := ((nI 0 ≤ en ∧ en ≤ nI 1) ∧ (nI 0 ≤ pct ∧ pct ≤ nI 100)) ∧ ¬ s_mn f en cn = 0
def s_rro (f : Nat → Int32) (n : Nat) (en pct : Int32) (cn : Nat) : (Nat → Int32) × Nat := s_ro en pct (s_mdn (s_rec f n) en cn) cn (s_rec f n) cn 0
def s_roR (f : Nat → Int32) (n : Nat) (en pct : Int32) (cn : Nat) : Int32 := if (nI 0 ≤ en ∧ en ≤ nI 1) ∧ (nI 0 ≤ pct ∧ pct ≤ nI 100) then (if s_mn f en cn = 0 then cILL else nI (s_rro f n en pct cn).2) else cINV
def s_roF (f : Nat → Int32) (n : Nat) (en pct : Int32) (cn : Nat) : Nat → Int32 := if s_okO f en pct cn then (s_rro f n en pct cn).1 else f
def s_roN (f : Nat → Int32) (n : Nat) (en pct : Int32) (cn : Nat) : Nat := if s_okO f en pct cn then s_recn n else n
theorem s_mn_eq {f F : Nat → Int32} (en : Int32) : ∀ k, k ≤ 10 → (∀ j, j < 502 → F j = f j) → s_mn F en k = s_mn f en k
  | 0, _, _ => rfl
  | k + 1, hk, h => by unfold s_mn; rw [s_mn_eq en k (by omega) h, h (62 + 44 * k) (by omega)]
def s_inV (f : Nat → Int32) (i : Nat) : Nat → Int32 := upd (upd (upd f (8 + 4 * i + 1) (nI 8)) (8 + 4 * i + 2) (nI 18)) (8 + 4 * i + 3) (nI 4)
def s_in8 : Nat → Int32 := upd (upd (upd (upd (upd (upd (upd (upd (fun _ => 0) 0 (nI 2)) 1 (nI 1000)) 2 (nI 900)) 3 (nI 60)) 4 (nI 800)) 5 (nI 50)) 6 (nI 10)) 7 (nI 5)
def s_ini : Nat → Int32 := s_inV (s_inV s_in8 0) 1
theorem va_S_mono {A B : Nat → Prop} {H0 H : Heap} {locs : List Loc} (h : va_S A H0 H locs) (hAB : ∀ q, A q → B q) : va_S B H0 H locs := ⟨h.1, fun q h1 h2 => h.2.1 q h1 (fun z => h2 (hAB q z)), fun l hl => hAB _ (h.2.2 l hl)⟩
theorem kInt {g : kG} {s : State} {cA : ClassId} (hK : KK g s) {tys : List (ClassId × FieldType)} (h : va_K g.1 kCl (tys ++ [(cA, .int)]) s) : cA = g.2.1 := by
  have h1 := (hK.1.2 0 _ rfl).2
  have h2 := (h.2 tys.length (cA, .int) (by simp)).2
  exact Option.some.inj (h2.symm.trans h1)
