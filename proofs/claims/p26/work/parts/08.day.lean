/-! an hour with a plan, and the day by its plans -/
def hr_dn (Z : Nat → Int) (k : Nat) (lev u : Int) : Int := lk_down Z (lk_fill Z k lev (lk_pump u)) (lk_want Z u)
def hr_sp (Z : Nat → Int) (k : Nat) (lev u : Int) : Int := lk_spill Z (lk_fill Z k lev (lk_pump u) - hr_dn Z k lev u)
def hr_lv (Z : Nat → Int) (k : Nat) (lev u : Int) : Int := lk_fill Z k lev (lk_pump u) - hr_dn Z k lev u - hr_sp Z k lev u
def hr_mo (Z : Nat → Int) (k : Nat) (lev u : Int) : Int := lk_earn Z k (hr_dn Z k lev u) - lk_pump u * Z (10 + k)
def lk_tr (Z : Nat → Int) (k : Nat) (d w o : Int) : Int := if d < Z 4 then 1 else if d < w then 2 else if 0 < lk_missed Z k d then 3 else if 0 < o then 4 else 0
def hr_tr (Z : Nat → Int) (k : Nat) (lev u : Int) : Int := lk_tr Z k (hr_dn Z k lev u) (lk_want Z u) (hr_sp Z k lev u)
theorem hr_lv_eq (Z : Nat → Int) (k : Nat) (lev u : Int) : hr_lv Z k lev u = lk_behind Z k lev u := rfl
/-- the level ahead of hour n, by the plans -/
def dy_lev (Z : Nat → Int) : Nat → Int
  | 0 => Z 7
  | n + 1 => hr_lv Z n (dy_lev Z n) (Z (58 + n))
def dy_dn (Z : Nat → Int) (n : Nat) : Int := hr_dn Z n (dy_lev Z n) (Z (58 + n))
def dy_pu (Z : Nat → Int) (n : Nat) : Int := lk_pump (Z (58 + n))
def dy_lo (Z : Nat → Int) (n : Nat) : Int := lk_loss Z (lk_pump (Z (58 + n)))
def dy_sp (Z : Nat → Int) (n : Nat) : Int := hr_sp Z n (dy_lev Z n) (Z (58 + n))
def dy_le (Z : Nat → Int) (n : Nat) : Int := hr_lv Z n (dy_lev Z n) (Z (58 + n))
def dy_mo (Z : Nat → Int) (n : Nat) : Int := hr_mo Z n (dy_lev Z n) (Z (58 + n))
def dy_tr (Z : Nat → Int) (n : Nat) : Int := hr_tr Z n (dy_lev Z n) (Z (58 + n))
/-- the latest hour ahead of n in which something was spilled -/
def dy_ls (Z : Nat → Int) : Nat → Int
  | 0 => -6
  | n + 1 => if 0 < dy_sp Z n then (n : Int) else dy_ls Z n
def dy_ca (Z : Nat → Int) (n : Nat) : Int := if dy_tr Z n = 1 ∨ dy_tr Z n = 2 ∨ dy_tr Z n = 3 then dy_ls Z n else -6
/-- d as far as place n, F from there on -/
def zmix (n : Nat) (d F : Nat → Int) : Nat → Int := fun k => if k < n then d k else F k
theorem zmix_0 (d F : Nat → Int) : F = zmix 0 d F := by
  funext k
  unfold zmix
  rw [if_neg (Nat.not_lt_zero k)]
theorem zmix_s {n : Nat} {d F : Nat → Int} {v : Int} (h : v = d n) : zup (zmix n d F) n v = zmix (n + 1) d F := by
  funext k
  unfold zup zmix
  by_cases hk : k = n
  · subst hk
    rw [if_pos rfl, if_pos (Nat.lt_succ_self k), h]
  · rw [if_neg hk]
    by_cases h2 : k < n
    · rw [if_pos h2, if_pos (by omega)]
    · rw [if_neg h2, if_neg (by omega)]
theorem zmix_in {n k : Nat} {d F : Nat → Int} (h : k < n) : zmix n d F k = d k := if_pos h
theorem hr_dn_rng {Z : Nat → Int} (hV : VL Z) (k : Nat) (lev : Int) {u : Int} (hu : -30 ≤ u ∧ u ≤ 30) : 0 ≤ hr_dn Z k lev u ∧ hr_dn Z k lev u ≤ 30 := by
  have hw := lk_want_rng hV hu
  have := lk_down_rng Z (lk_fill Z k lev (lk_pump u)) (lk_want Z u) hw.1
  unfold hr_dn
  omega
theorem hr_rng {Z : Nat → Int} (hV : VL Z) {k : Nat} (hk : k < 24) {lev : Int} (hl : 0 ≤ lev ∧ lev ≤ 10000) {u : Int} (hu : -30 ≤ u ∧ u ≤ 30) : (0 ≤ lk_fill Z k lev (lk_pump u) ∧ lk_fill Z k lev (lk_pump u) ≤ 10200) ∧ (0 ≤ hr_dn Z k lev u ∧ hr_dn Z k lev u ≤ 30) ∧ (0 ≤ hr_sp Z k lev u ∧ hr_sp Z k lev u ≤ 10200) ∧ (0 ≤ hr_lv Z k lev u ∧ hr_lv Z k lev u ≤ 200) ∧ (0 ≤ lk_fill Z k lev (lk_pump u) - hr_dn Z k lev u) := by
  have h1 := lk_fill_rng hV hk (lev := lev) (lk_pump_rng hu)
  have h2 := hr_dn_rng hV k lev hu
  have h3 := lk_behind_rng hV hk hl.1 hu
  rw [← hr_lv_eq] at h3
  have hs := hV.1
  unfold VS at hs
  have h4 : hr_dn Z k lev u ≤ max 0 (lk_fill Z k lev (lk_pump u) - Z 5) := by unfold hr_dn lk_down; omega
  have h5 : 0 ≤ hr_sp Z k lev u ∧ hr_sp Z k lev u ≤ max 0 (lk_fill Z k lev (lk_pump u) - hr_dn Z k lev u) := by unfold hr_sp lk_spill; omega
  omega
theorem VL.plan {Z : Nat → Int} (hV : VL Z) {h : Nat} (hh : h < 24) : -30 ≤ Z (58 + h) ∧ Z (58 + h) ≤ 30 := by
  have h1 := (hV.2.1 h hh).2.2
  have hs := hV.1
  unfold VS at hs
  omega
theorem dy_lev_rng {Z : Nat → Int} (hV : VL Z) : ∀ n : Nat, n ≤ 24 → 0 ≤ dy_lev Z n ∧ dy_lev Z n ≤ 200
  | 0, _ => by
    have hs := hV.1
    unfold VS at hs
    unfold dy_lev
    omega
  | n + 1, hn => by
    have ih := dy_lev_rng hV n (by omega)
    have := hr_rng hV (show n < 24 by omega) (lev := dy_lev Z n) (by omega) (hV.plan (show n < 24 by omega))
    unfold dy_lev
    omega
theorem lk_tr_rng (Z : Nat → Int) (k : Nat) (d w o : Int) : 0 ≤ lk_tr Z k d w o ∧ lk_tr Z k d w o ≤ 4 := by
  unfold lk_tr
  split
  · omega
  · split
    · omega
    · split
      · omega
      · split <;> omega
theorem dy_rng {Z : Nat → Int} (hV : VL Z) {n : Nat} (hn : n < 24) : (0 ≤ dy_dn Z n ∧ dy_dn Z n ≤ 30) ∧ (0 ≤ dy_sp Z n ∧ dy_sp Z n ≤ 10200) ∧ (0 ≤ dy_le Z n ∧ dy_le Z n ≤ 200) ∧ (0 ≤ dy_tr Z n ∧ dy_tr Z n ≤ 4) ∧ (0 ≤ dy_pu Z n ∧ dy_pu Z n ≤ 30) := by
  have h1 := dy_lev_rng hV n (by omega)
  have h2 := hr_rng hV hn (lev := dy_lev Z n) (by omega) (hV.plan hn)
  have h3 := lk_tr_rng Z n (hr_dn Z n (dy_lev Z n) (Z (58 + n))) (lk_want Z (Z (58 + n))) (hr_sp Z n (dy_lev Z n) (Z (58 + n)))
  have h4 := lk_pump_rng (hV.plan hn)
  unfold dy_dn dy_sp dy_le dy_tr hr_tr dy_pu
  omega
