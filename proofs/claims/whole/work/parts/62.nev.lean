/-! the best plan with another number where there is none -/
def nv (x : Int) : Int := if x = NOP then NEV else x
theorem zmax_nv {f g : Int → Int} {a : Int} : ∀ k : Nat, (∀ j : Nat, j < k → g (a + (j : Int)) = nv (f (a + (j : Int))) ∧ (f (a + (j : Int)) = NOP ∨ -4000000 ≤ f (a + (j : Int)))) → zmax NEV g a k = nv (zmax NOP f a k) ∧ (zmax NOP f a k = NOP ∨ -4000000 ≤ zmax NOP f a k)
  | 0, _ => ⟨rfl, Or.inl rfl⟩
  | k + 1, h => by
    have ih := zmax_nv k (fun j hj => h j (by omega))
    have h1 := h k (by omega)
    have e1 : NOP = -1000000000 := rfl
    have e2 : NEV = -100000000 := rfl
    unfold zmax
    rw [ih.1, h1.1]
    unfold nv
    constructor
    · split
      · split <;> split <;> omega
      · split <;> split <;> omega
    · omega
theorem bv_nev {Z : Nat → Int} (hV : VL Z) : ∀ r : Nat, r ≤ 24 → ∀ l : Int, 0 ≤ l → bv NEV Z r l = nv (bv NOP Z r l)
  | 0, _, l, _ => by
    show (if Z 8 ≤ l then 0 else NEV) = nv (if Z 8 ≤ l then 0 else NOP)
    split <;> rfl
  | r + 1, hr, l, hl => by
    have hs := hV.1
    unfold VS at hs
    rw [bv_s, bv_s]
    refine (zmax_nv (f := fun u => fv NOP Z r (23 - r) l u) (g := fun u => fv NEV Z r (23 - r) l u) _ (fun j hj => ?_)).1
    have hb := lk_behind_rng hV (show 23 - r < 24 by omega) (lev := l) (u := -(Z 0) + (j : Int)) hl (by omega)
    have ih := bv_nev hV r (by omega) (lk_behind Z (23 - r) l (-(Z 0) + (j : Int))) hb.1
    have hm := hr_mo_rng hV (show 23 - r < 24 by omega) l (u := -(Z 0) + (j : Int)) (by omega)
    have hbr := bv_rng hV NOP_le r (by omega) (lk_behind Z (23 - r) l (-(Z 0) + (j : Int))) hb.1
    have e1 : NOP = -1000000000 := rfl
    have e2 : NEV = -100000000 := rfl
    have hr2 : 111000 * (r : Int) ≤ 2600000 := by omega
    show fv NEV Z r (23 - r) l (-(Z 0) + (j : Int)) = nv (fv NOP Z r (23 - r) l (-(Z 0) + (j : Int))) ∧ (fv NOP Z r (23 - r) l (-(Z 0) + (j : Int)) = NOP ∨ -4000000 ≤ fv NOP Z r (23 - r) l (-(Z 0) + (j : Int)))
    unfold fv
    rw [ih]
    unfold nv gn
    by_cases w : bv NOP Z r (lk_behind Z (23 - r) l (-(Z 0) + (j : Int))) = NOP
    · rw [if_pos w, if_pos w, if_pos rfl, if_pos rfl]
      exact ⟨rfl, Or.inl rfl⟩
    · rw [if_neg w, if_neg w, if_neg (by omega), if_neg (by omega)]
      exact ⟨rfl, Or.inr (by omega)⟩
theorem fv_nev {Z : Nat → Int} (hV : VL Z) {r h : Nat} (hr : r ≤ 23) (hh : h < 24) {l u : Int} (hl : 0 ≤ l) (hu : -30 ≤ u ∧ u ≤ 30) : fv NEV Z r h l u = nv (fv NOP Z r h l u) ∧ (fv NOP Z r h l u = NOP ∨ -4000000 ≤ fv NOP Z r h l u) := by
  have hb := lk_behind_rng hV hh (lev := l) hl hu
  have hm := hr_mo_rng hV hh l hu
  have hbr := bv_rng hV NOP_le r (by omega) (lk_behind Z h l u) hb.1
  have e1 : NOP = -1000000000 := rfl
  have e2 : NEV = -100000000 := rfl
  unfold fv
  rw [bv_nev hV r (by omega) _ hb.1]
  unfold nv gn
  by_cases w : bv NOP Z r (lk_behind Z h l u) = NOP
  · rw [if_pos w, if_pos w, if_pos rfl, if_pos rfl]
    exact ⟨rfl, Or.inl rfl⟩
  · rw [if_neg w, if_neg w, if_neg (by omega), if_neg (by omega)]
    exact ⟨rfl, Or.inr (by omega)⟩
/-- the first of the best plans from a level on -/
def bq (N : Int) (Z : Nat → Int) (h : Nat) (lev : Int) : Int := zfirst (fv N Z (23 - h) h lev) (bv N Z (24 - h) lev) (-(Z 0)) (Z 0 + Z 1).toNat
theorem bp_bq (N : Int) (Z : Nat → Int) (h : Nat) : bp N Z h = bq N Z h (bl N Z h) := rfl
theorem bq_nev {Z : Nat → Int} (hV : VL Z) {h : Nat} (hh : h < 24) {l : Int} (hl : 0 ≤ l) (hne : bv NOP Z (24 - h) l ≠ NOP) : bq NEV Z h l = bq NOP Z h l := by
  have hs := hV.1
  unfold VS at hs
  have e1 : NOP = -1000000000 := rfl
  have e2 : NEV = -100000000 := rfl
  have hbr := bv_rng hV NOP_le (24 - h) (by omega) l hl
  unfold bq
  refine zfirst_cong _ _ (fun u h1 h2 => ?_)
  have hf := fv_nev hV (r := 23 - h) (h := h) (by omega) hh hl (u := u) (by omega)
  rw [hf.1, bv_nev hV (24 - h) (by omega) l hl]
  unfold nv
  rw [if_neg hne]
  by_cases w : fv NOP Z (23 - h) h l u = NOP
  · rw [if_pos w]
    omega
  · rw [if_neg w]
/-- the plan of the hour gives what the table says -/
theorem bq_ok {Z : Nat → Int} (hV : VL Z) {N : Int} {h : Nat} (hh : h < 24) {l : Int} (hne : bv N Z (24 - h) l ≠ N) : fv N Z (23 - h) h l (bq N Z h l) = bv N Z (24 - h) l ∧ -(Z 0) ≤ bq N Z h l ∧ bq N Z h l ≤ Z 1 := by
  have hs := hV.1
  unfold VS at hs
  have e : bv N Z (24 - h) l = zmax N (fun u => fv N Z (23 - h) h l u) (-(Z 0)) (Z 0 + Z 1 + 1).toNat := by
    rw [show 24 - h = (23 - h) + 1 by omega, bv_s, show 23 - (23 - h) = h by omega]
  rcases zmax_at (N := N) (f := fun u => fv N Z (23 - h) h l u) (a := -(Z 0)) (Z 0 + Z 1 + 1).toNat with w | ⟨j, hj, w⟩
  · exact absurd (e.trans w) hne
  · have z := zfirst_at (f := fv N Z (23 - h) h l) (goal := bv N Z (24 - h) l) (Z 0 + Z 1).toNat (-(Z 0)) ⟨j, by omega, (e.trans w).symm⟩
    exact ⟨z.1, z.2.1, by have := z.2.2; unfold bq; omega⟩
theorem zfirst_s {f : Int → Int} {goal a : Int} {k : Nat} (h : f a ≠ goal) : zfirst f goal a (k + 1) = zfirst f goal (a + 1) k := if_neg h
theorem zfirst_h {f : Int → Int} {goal a : Int} {k : Nat} (h : f a = goal) : zfirst f goal a k = a := by
  cases k with
  | zero => rfl
  | succ k => exact if_pos h
theorem bv_ne_nev {Z : Nat → Int} (hV : VL Z) {r : Nat} (hr : r ≤ 24) {l : Int} (hl : 0 ≤ l) : bv NEV Z r l = NEV ↔ bv NOP Z r l = NOP := by
  have hbr := bv_rng hV NOP_le r hr l hl
  have e1 : NOP = -1000000000 := rfl
  have e2 : NEV = -100000000 := rfl
  rw [bv_nev hV r hr l hl]
  unfold nv
  split
  · rename_i w
    exact ⟨fun _ => w, fun _ => rfl⟩
  · omega
/-! the highest level -/
theorem tp_gain {Z : Nat → Int} (hV : VL Z) {a b : Int} (ha : 0 ≤ a) (hab : a ≤ b) : a - lk_loss Z a ≤ b - lk_loss Z b := by
  have hs := hV.1
  unfold VS at hs
  have h1 : 0 ≤ (b - a) * Z 2 := Int.mul_nonneg (by omega) hs.2.2.1.1
  have h2 : (b - a) * Z 2 ≤ (b - a) * 100 := Int.mul_le_mul_of_nonneg_left hs.2.2.1.2 (by omega)
  have h3 : (b - a) * Z 2 = b * Z 2 - a * Z 2 := Int.sub_mul b a (Z 2)
  unfold lk_loss
  omega
theorem tp_mono {Z : Nat → Int} (hV : VL Z) (h : Nat) {a b u : Int} (hab : a ≤ b) (hu : -(Z 0) ≤ u) : lk_behind Z h a u ≤ lk_behind Z h b (-(Z 0)) := by
  have hs := hV.1
  unfold VS at hs
  have e1 : lk_pump (-(Z 0)) = Z 0 := by unfold lk_pump; omega
  have e2 : lk_want Z (-(Z 0)) = Z 4 := by unfold lk_want; omega
  have hp : 0 ≤ lk_pump u ∧ lk_pump u ≤ Z 0 := by unfold lk_pump; omega
  have hw : Z 4 ≤ lk_want Z u := by unfold lk_want; omega
  have hg := tp_gain hV hp.1 hp.2
  have hf : lk_fill Z h a (lk_pump u) ≤ lk_fill Z h b (Z 0) := by unfold lk_fill; omega
  unfold lk_behind
  rw [e1, e2]
  unfold lk_beh2 lk_spill lk_down
  omega
/-- the levels that can be: 0 or 1 at each, 1 at the highest, 0 above it -/
def CN (t : Int) (C : Nat → Int) (o : Nat) : Prop := (∀ j : Nat, j ≤ 200 → (C (o + j) = 0 ∨ C (o + j) = 1)) ∧ (∀ j : Nat, j ≤ 200 → C (o + j) = 1 → (j : Int) ≤ t)
theorem CN.set {t : Int} {C : Nat → Int} {o k : Nat} (h : CN t C o) (hk : (k : Int) ≤ t) : CN t (zup C (o + k) 1) o := by
  refine ⟨fun j hj => ?_, fun j hj q => ?_⟩
  · unfold zup
    split
    · exact Or.inr rfl
    · exact h.1 j hj
  · unfold zup at q
    split at q
    · omega
    · exact h.2 j hj q
theorem CN.off {t : Int} {C : Nat → Int} {o k : Nat} {v : Int} (h : CN t C o) (hk : k < o ∨ o + 201 ≤ k) : CN t (zup C k v) o := by
  refine ⟨fun j hj => ?_, fun j hj q => ?_⟩
  · unfold zup
    rw [if_neg (by omega)]
    exact h.1 j hj
  · unfold zup at q
    rw [if_neg (by omega)] at q
    exact h.2 j hj q
