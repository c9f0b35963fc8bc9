/-! what the plant answers -/
def pl_hv (Z : Nat → Int) (k : Nat) (b : Int) : Int := if b = 0 then Z (10 + k) else if b = 1 then Z (34 + k) else if b = 2 then Z (58 + k) + 100 else if b = 3 then dy_dn Z k else if b = 4 then dy_pu Z k else if b = 5 then dy_lo Z k else if b = 6 then dy_sp Z k else if b = 7 then dy_le Z k else if b = 8 then dy_mo Z k + 1000000 else if b = 9 then dy_tr Z k else if b = 10 then dy_ca Z k else -2
def pl_hour (Z : Nat → Int) (a b : Int) : Int := if 0 ≤ a ∧ a < 24 then pl_hv Z a.toNat b else -1
theorem pl_hv_out {Z : Nat → Int} {k : Nat} {b : Int} (h : b < 0 ∨ 10 < b) : pl_hv Z k b = -2 := by
  unfold pl_hv
  rw [if_neg (by omega), if_neg (by omega), if_neg (by omega), if_neg (by omega), if_neg (by omega), if_neg (by omega), if_neg (by omega), if_neg (by omega), if_neg (by omega), if_neg (by omega), if_neg (by omega)]
def pl_day (Z : Nat → Int) (b : Int) : Int := if b = 0 then zsum (dy_mo Z) 24 + 10000000 else if b = 1 then zsum (dy_dn Z) 24 else if b = 2 then zsum (dy_pu Z) 24 else if b = 3 then zsum (dy_lo Z) 24 else if b = 4 then zsum (dy_sp Z) 24 else if b = 5 then dy_le Z 23 else if b = 6 then (nb (dy_tr Z) 1 24 : Int) else if b = 7 then (nb (dy_tr Z) 1 24 : Int) + (nb (dy_tr Z) 2 24 : Int) else if b = 8 then zsum (fun h => lk_missed Z h (dy_dn Z h)) 24 else if b = 9 then (if Z 8 ≤ dy_le Z 23 then 1 else 0) else if b = 10 then zsum (fun h => Z (34 + h)) 24 else -2
theorem pl_day_out {Z : Nat → Int} {b : Int} (h : b < 0 ∨ 10 < b) : pl_day Z b = -2 := by
  unfold pl_day
  rw [if_neg (by omega), if_neg (by omega), if_neg (by omega), if_neg (by omega), if_neg (by omega), if_neg (by omega), if_neg (by omega), if_neg (by omega), if_neg (by omega), if_neg (by omega), if_neg (by omega)]
def pl_of (Z : Nat → Int) (a b : Int) : Int := if 0 ≤ a ∧ a < Z 114 then (if 0 ≤ b ∧ b ≤ 4 then (if b < 4 then Z (82 + a.toNat * 4 + b.toNat) else (if Z (82 + a.toNat * 4 + 1) ≤ dy_dn Z (Z (82 + a.toNat * 4 + 0)).toNat then 1 else 0)) else -2) else -1
def pl_trb (Z : Nat → Int) (a : Int) : Int := if 1 ≤ a ∧ a ≤ 4 then (sb (dy_tr Z) a 24 : Int) else -2
def pl_cnt (Z : Nat → Int) (np len : Int) (a : Int) : Int := if 0 ≤ a ∧ a < 10 then Z a.toNat else if a = 10 then Z 114 else if a = 11 then np else if a = 12 then len else -2
theorem zsum_congr {f g : Nat → Int} : ∀ n : Nat, (∀ j : Nat, j < n → f j = g j) → zsum f n = zsum g n
  | 0, _ => rfl
  | n + 1, h => by
    unfold zsum
    rw [zsum_congr n (fun j hj => h j (by omega)), h n (by omega)]
theorem zsum_mix (d F : Nat → Int) (n : Nat) : zsum (zmix n d F) n = zsum d n := zsum_congr n (fun _ hj => zmix_in hj)
theorem nb_congr {f g : Nat → Int} {t : Int} : ∀ n : Nat, (∀ j : Nat, j < n → f j = g j) → nb f t n = nb g t n
  | 0, _ => rfl
  | n + 1, h => by
    unfold nb
    rw [nb_congr n (fun j hj => h j (by omega)), h n (by omega)]
theorem nb_mix (d F : Nat → Int) (t : Int) (n : Nat) : nb (zmix n d F) t n = nb d t n := nb_congr n (fun _ hj => zmix_in hj)
theorem sb_congr {f g : Nat → Int} {t : Int} : ∀ n : Nat, (∀ j : Nat, j < n → f j = g j) → sb f t n = sb g t n
  | 0, _ => rfl
  | n + 1, h => by
    unfold sb
    rw [sb_congr n (fun j hj => h j (by omega)), h n (by omega)]
theorem sb_mix (d F : Nat → Int) (t : Int) (n : Nat) : sb (zmix n d F) t n = sb d t n := sb_congr n (fun _ hj => zmix_in hj)
theorem nb_rng (F : Nat → Int) (t : Int) : ∀ n : Nat, nb F t n ≤ n
  | 0 => Nat.le_refl 0
  | n + 1 => by
    have := nb_rng F t n
    unfold nb
    split <;> omega
def pl_best (Z : Nat → Int) : Int := if bv NOP Z 24 (Z 7) = NOP then -6 else bv NOP Z 24 (Z 7) + 10000000
def pl_bp (Z : Nat → Int) (a : Int) : Int := if 0 ≤ a ∧ a < 24 then (if bv NOP Z 24 (Z 7) = NOP then -6 else bp NOP Z a.toNat + 100) else -1
def pl_wor (Z : Nat → Int) (a : Int) : Int := if (-200 ≤ a ∧ a ≤ 200) ∧ 0 ≤ Z 7 + a ∧ Z 7 + a ≤ 200 then (if bv NOP Z 24 (Z 7) = NOP ∨ bv NOP Z 24 (Z 7 + a) = NOP then -6 else bv NOP Z 24 (Z 7 + a) - bv NOP Z 24 (Z 7) + 10000000) else -2
theorem MS.top {Z : Nat → Int} {M : Nat → Nat → Int} (h : MS Z M 0) {l : Int} (hl : 0 ≤ l ∧ l ≤ 200) : M 0 l.toNat = bv NOP Z 24 l := by
  rw [h 0 (Nat.le_refl _) (by omega) l.toNat (by omega) (Or.inl rfl), show ((l.toNat : Nat) : Int) = l by omega]
theorem bv_top_rng {Z : Nat → Int} (hV : VL Z) {l : Int} (hl : 0 ≤ l) : bv NOP Z 24 l = -1000000000 ∨ (-2664000 ≤ bv NOP Z 24 l ∧ bv NOP Z 24 l ≤ 2664000) := by
  have h1 := bv_rng hV NOP_le 24 (Nat.le_refl _) l hl
  have e : NOP = -1000000000 := rfl
  omega
