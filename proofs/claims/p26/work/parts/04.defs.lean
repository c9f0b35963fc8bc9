/-! the day's rules, over Int -/
def lk_loss (Z : Nat → Int) (p : Int) : Int := (p * Z 2 + 99) / 100
def lk_fill (Z : Nat → Int) (h : Nat) (lev p : Int) : Int := lev + p - lk_loss Z p + Z (34 + h)
def lk_want (Z : Nat → Int) (u : Int) : Int := max (Z 4) u
def lk_down (Z : Nat → Int) (fl w : Int) : Int := max 0 (min w (fl - Z 5))
def lk_spill (Z : Nat → Int) (lev : Int) : Int := max 0 (lev - Z 6)
def lk_pump (u : Int) : Int := max 0 (-u)
def lk_beh2 (Z : Nat → Int) (fl w : Int) : Int := fl - lk_down Z fl w - lk_spill Z (fl - lk_down Z fl w)
def lk_behind (Z : Nat → Int) (h : Nat) (lev u : Int) : Int := lk_beh2 Z (lk_fill Z h lev (lk_pump u)) (lk_want Z u)
/-- bonuses and fines of the first n contracts that are of the hour -/
def lk_cs (Z : Nat → Int) (h : Nat) (d : Int) : Nat → Int
  | 0 => 0
  | n + 1 => lk_cs Z h d n + (if Z (82 + n * 4 + 0) = (h : Int) then (if Z (82 + n * 4 + 1) ≤ d then Z (82 + n * 4 + 2) else -Z (82 + n * 4 + 3)) else 0)
def lk_earn (Z : Nat → Int) (h : Nat) (d : Int) : Int := d * Z (10 + h) * Z 3 / 100 + lk_cs Z h d (Z 114).toNat - (if d < Z 4 then Z 9 else 0)
def lk_miss (Z : Nat → Int) (h : Nat) (d : Int) : Nat → Int
  | 0 => 0
  | n + 1 => lk_miss Z h d n + (if Z (82 + n * 4 + 0) = (h : Int) ∧ d < Z (82 + n * 4 + 1) then 1 else 0)
def lk_missed (Z : Nat → Int) (h : Nat) (d : Int) : Int := lk_miss Z h d (Z 114).toNat
def zsum (f : Nat → Int) : Nat → Int
  | 0 => 0
  | n + 1 => zsum f n + f n
/-- what every state of the settings, hours and contracts keeps to -/
def VS (Z : Nat → Int) : Prop := (0 ≤ Z 0 ∧ Z 0 ≤ 30) ∧ (0 ≤ Z 1 ∧ Z 1 ≤ 30) ∧ (0 ≤ Z 2 ∧ Z 2 ≤ 100) ∧ (0 ≤ Z 3 ∧ Z 3 ≤ 100) ∧ (0 ≤ Z 4 ∧ Z 4 ≤ 30) ∧ (0 ≤ Z 5 ∧ Z 5 ≤ 200) ∧ (0 ≤ Z 6 ∧ Z 6 ≤ 200) ∧ (0 ≤ Z 7 ∧ Z 7 ≤ 200) ∧ (0 ≤ Z 8 ∧ Z 8 ≤ 200) ∧ (0 ≤ Z 9 ∧ Z 9 ≤ 999) ∧ Z 5 ≤ Z 6 ∧ (0 ≤ Z 114 ∧ Z 114 ≤ 8)
def VH (Z : Nat → Int) : Prop := ∀ h : Nat, h < 24 → (0 ≤ Z (10 + h) ∧ Z (10 + h) ≤ 999) ∧ (0 ≤ Z (34 + h) ∧ Z (34 + h) ≤ 99) ∧ (-(Z 0) ≤ Z (58 + h) ∧ Z (58 + h) ≤ Z 1)
def VC (Z : Nat → Int) : Prop := ∀ c : Nat, (c : Int) < Z 114 → (0 ≤ Z (82 + c * 4 + 0) ∧ Z (82 + c * 4 + 0) < 24) ∧ (1 ≤ Z (82 + c * 4 + 1) ∧ Z (82 + c * 4 + 1) ≤ 30) ∧ (0 ≤ Z (82 + c * 4 + 2) ∧ Z (82 + c * 4 + 2) ≤ 9999) ∧ (0 ≤ Z (82 + c * 4 + 3) ∧ Z (82 + c * 4 + 3) ≤ 9999)
def VL (Z : Nat → Int) : Prop := VS Z ∧ VH Z ∧ VC Z
theorem zmul {a b A B : Int} (ha : 0 ≤ a ∧ a ≤ A) (hb : 0 ≤ b ∧ b ≤ B) : 0 ≤ a * b ∧ a * b ≤ A * B := ⟨Int.mul_nonneg ha.1 hb.1, Int.le_trans (Int.mul_le_mul_of_nonneg_right ha.2 hb.1) (Int.mul_le_mul_of_nonneg_left hb.2 (Int.le_trans ha.1 ha.2))⟩
theorem lk_loss_rng {Z : Nat → Int} (hV : VL Z) {p : Int} (hp : 0 ≤ p ∧ p ≤ 30) : 0 ≤ lk_loss Z p ∧ lk_loss Z p ≤ p := by
  obtain ⟨⟨-, -, v2, -⟩, -, -⟩ := hV
  have h1 := zmul hp v2
  have h2 : p * Z 2 ≤ p * 100 := Int.mul_le_mul_of_nonneg_left v2.2 hp.1
  unfold lk_loss
  omega
theorem lk_fill_rng {Z : Nat → Int} (hV : VL Z) {h : Nat} (hh : h < 24) {lev p : Int} (hp : 0 ≤ p ∧ p ≤ 30) : lev ≤ lk_fill Z h lev p ∧ lk_fill Z h lev p ≤ lev + 129 := by
  have h1 := lk_loss_rng hV hp
  have h2 := (hV.2.1 h hh).2.1
  unfold lk_fill
  omega
theorem lk_cs_rng {Z : Nat → Int} (hV : VL Z) (h : Nat) (d : Int) : ∀ n : Nat, (n : Int) ≤ Z 114 → -(9999 * (n : Int)) ≤ lk_cs Z h d n ∧ lk_cs Z h d n ≤ 9999 * (n : Int)
  | 0, _ => by simp [lk_cs]
  | n + 1, hn => by
    have ih := lk_cs_rng hV h d n (by omega)
    have hc := hV.2.2 n (by omega)
    unfold lk_cs
    split
    · split <;> omega
    · omega
theorem lk_earn_rng {Z : Nat → Int} (hV : VL Z) {h : Nat} (hh : h < 24) {d : Int} (hd : 0 ≤ d ∧ d ≤ 30) : -80991 ≤ lk_earn Z h d ∧ lk_earn Z h d ≤ 109962 := by
  have h1 := (hV.2.1 h hh).1
  have h2 := hV.1
  unfold VS at h2
  have h3 := zmul hd h1
  have h4 := zmul h3 h2.2.2.2.1
  have h5 := lk_cs_rng hV h d (Z 114).toNat (by omega)
  unfold lk_earn
  split <;> omega
theorem lk_miss_rng {Z : Nat → Int} (h : Nat) (d : Int) : ∀ n : Nat, 0 ≤ lk_miss Z h d n ∧ lk_miss Z h d n ≤ (n : Int)
  | 0 => by simp [lk_miss]
  | n + 1 => by
    have ih := lk_miss_rng (Z := Z) h d n
    unfold lk_miss
    split <;> omega
/-- the level behind an hour is one of the lake's: never above HIGH, never below 0 -/
theorem lk_beh2_rng {Z : Nat → Int} (hV : VL Z) {fl w : Int} (hf : 0 ≤ fl) : 0 ≤ lk_beh2 Z fl w ∧ lk_beh2 Z fl w ≤ Z 6 := by
  have h2 := hV.1
  unfold VS at h2
  unfold lk_beh2 lk_spill lk_down
  omega
theorem lk_down_rng (Z : Nat → Int) (fl w : Int) (hw : 0 ≤ w) : 0 ≤ lk_down Z fl w ∧ lk_down Z fl w ≤ w := by
  unfold lk_down
  omega
theorem lk_pump_rng {u : Int} (hu : -30 ≤ u ∧ u ≤ 30) : 0 ≤ lk_pump u ∧ lk_pump u ≤ 30 := by
  unfold lk_pump
  omega
theorem lk_want_rng {Z : Nat → Int} (hV : VL Z) {u : Int} (hu : -30 ≤ u ∧ u ≤ 30) : 0 ≤ lk_want Z u ∧ lk_want Z u ≤ 30 := by
  have hs := hV.1
  unfold VS at hs
  unfold lk_want
  omega
theorem lk_behind_rng {Z : Nat → Int} (hV : VL Z) {h : Nat} (hh : h < 24) {lev u : Int} (hl : 0 ≤ lev) (hu : -30 ≤ u ∧ u ≤ 30) : 0 ≤ lk_behind Z h lev u ∧ lk_behind Z h lev u ≤ Z 6 := by
  have h1 := lk_fill_rng hV hh (lev := lev) (lk_pump_rng hu)
  exact lk_beh2_rng hV (by omega)
/-- the levels of a day in which all that can be is pumped -/
def lk_top (Z : Nat → Int) : Nat → Int
  | 0 => Z 7
  | n + 1 => lk_behind Z n (lk_top Z n) (-(Z 0))
theorem lk_top_rng {Z : Nat → Int} (hV : VL Z) : ∀ n : Nat, n ≤ 24 → 0 ≤ lk_top Z n ∧ lk_top Z n ≤ 200
  | 0, _ => by
    have hs := hV.1
    unfold VS at hs
    unfold lk_top
    omega
  | n + 1, hn => by
    have ih := lk_top_rng hV n (by omega)
    have hs := hV.1
    unfold VS at hs
    have := lk_behind_rng hV (show n < 24 by omega) ih.1 (u := -(Z 0)) (by omega)
    unfold lk_top
    omega
/-- whether a setting may be so beside the others -/
def lk_fits (Z : Nat → Int) (st v : Int) : Prop := (st = 5 → v ≤ Z 6) ∧ (st = 6 → Z 5 ≤ v) ∧ (st = 0 → ∀ h : Nat, h < 24 → -v ≤ Z (58 + h) ∧ Z (58 + h) ≤ Z 1) ∧ (st = 1 → ∀ h : Nat, h < 24 → -(Z 0) ≤ Z (58 + h) ∧ Z (58 + h) ≤ v)
/-- what a change answers, lays, and counts: prices (off 10, mx 999), inflows (34, 99), plans, contracts, a contract dropped, settings -/
def lk_rAt (off : Nat) (mx : Int) (Z : Nat → Int) (h p : Int) : Int := if 0 ≤ h ∧ h < 24 then (if 0 ≤ p ∧ p ≤ mx then Z (off + h.toNat) else -2) else -1
def lk_zAt (off : Nat) (mx : Int) (Z : Nat → Int) (h p : Int) : Nat → Int := if (0 ≤ h ∧ h < 24) ∧ 0 ≤ p ∧ p ≤ mx then zup Z (off + h.toNat) p else Z
def lk_vAt (mx : Int) (h p ve : Int) : Int := if (0 ≤ h ∧ h < 24) ∧ 0 ≤ p ∧ p ≤ mx then ve + 1 else ve
def lk_rPlan (Z : Nat → Int) (h u : Int) : Int := if 0 ≤ h ∧ h < 24 then (if -(Z 0) ≤ u ∧ u ≤ Z 1 then Z (58 + h.toNat) + 100 else -2) else -1
def lk_zPlan (Z : Nat → Int) (h u : Int) : Nat → Int := if (0 ≤ h ∧ h < 24) ∧ -(Z 0) ≤ u ∧ u ≤ Z 1 then zup Z (58 + h.toNat) u else Z
def lk_okCon (h u b f : Int) : Prop := (0 ≤ h ∧ h < 24) ∧ (1 ≤ u ∧ u ≤ 30) ∧ (0 ≤ b ∧ b ≤ 9999) ∧ (0 ≤ f ∧ f ≤ 9999)
def lk_rCon (Z : Nat → Int) (h u b f : Int) : Int := if 0 ≤ h ∧ h < 24 then (if (1 ≤ u ∧ u ≤ 30) ∧ (0 ≤ b ∧ b ≤ 9999) ∧ (0 ≤ f ∧ f ≤ 9999) then (if Z 114 < 8 then Z 114 else -4) else -2) else -1
def lk_lay (Z : Nat → Int) (n : Nat) (h u b f : Int) : Nat → Int := zup (zup (zup (zup (zup Z (82 + n * 4 + 0) h) (82 + n * 4 + 1) u) (82 + n * 4 + 2) b) (82 + n * 4 + 3) f) 114 ((n : Int) + 1)
def lk_zCon (Z : Nat → Int) (h u b f : Int) : Nat → Int := if ((0 ≤ h ∧ h < 24) ∧ (1 ≤ u ∧ u ≤ 30) ∧ (0 ≤ b ∧ b ≤ 9999) ∧ (0 ≤ f ∧ f ≤ 9999)) ∧ Z 114 < 8 then lk_lay Z (Z 114).toNat h u b f else Z
def lk_vCon (Z : Nat → Int) (h u b f ve : Int) : Int := if ((0 ≤ h ∧ h < 24) ∧ (1 ≤ u ∧ u ≤ 30) ∧ (0 ≤ b ∧ b ≤ 9999) ∧ (0 ≤ f ∧ f ≤ 9999)) ∧ Z 114 < 8 then ve + 1 else ve
def lk_rDrop (Z : Nat → Int) (c : Int) : Int := if 0 ≤ c ∧ c < Z 114 then Z 114 - 1 else -1
/-- the cells from place a on move up by 4, as far as place e -/
def lk_up (Z : Nat → Int) (a e : Nat) : Nat → Int := fun k => if a ≤ k ∧ k < e then Z (k + 4) else Z k
def lk_zDrop (Z : Nat → Int) (c : Int) : Nat → Int := if 0 ≤ c ∧ c < Z 114 then zup (lk_up Z (82 + c.toNat * 4) 110) 114 (Z 114 - 1) else Z
def lk_vDrop (Z : Nat → Int) (c ve : Int) : Int := if 0 ≤ c ∧ c < Z 114 then ve + 1 else ve
theorem lk_fits_0 {Z : Nat → Int} {v : Int} : lk_fits Z 0 v ↔ ∀ h : Nat, h < 24 → -v ≤ Z (58 + h) ∧ Z (58 + h) ≤ Z 1 := by unfold lk_fits; simp
theorem lk_fits_1 {Z : Nat → Int} {v : Int} : lk_fits Z 1 v ↔ ∀ h : Nat, h < 24 → -(Z 0) ≤ Z (58 + h) ∧ Z (58 + h) ≤ v := by unfold lk_fits; simp
theorem lk_fits_5 {Z : Nat → Int} {v : Int} : lk_fits Z 5 v ↔ v ≤ Z 6 := by unfold lk_fits; simp
theorem lk_fits_6 {Z : Nat → Int} {v : Int} : lk_fits Z 6 v ↔ Z 5 ≤ v := by unfold lk_fits; simp
theorem lk_fits_o {Z : Nat → Int} {st v : Int} (h : st ≠ 0 ∧ st ≠ 1 ∧ st ≠ 5 ∧ st ≠ 6) : lk_fits Z st v := ⟨fun q => absurd q h.2.2.1, fun q => absurd q h.2.2.2, fun q => absurd q h.1, fun q => absurd q h.2.1⟩
theorem lk_up_s {Z : Nat → Int} {a n : Nat} (h : a ≤ n) : zup (lk_up Z a n) n (lk_up Z a n (n + 4)) = lk_up Z a (n + 1) := by
  funext k
  unfold zup
  by_cases hk : k = n
  · subst hk
    rw [if_pos rfl]
    unfold lk_up
    rw [if_neg (by omega), if_pos (by omega)]
  · rw [if_neg hk]
    unfold lk_up
    by_cases h2 : a ≤ k ∧ k < n
    · rw [if_pos h2, if_pos (by omega)]
    · rw [if_neg h2, if_neg (by omega)]
