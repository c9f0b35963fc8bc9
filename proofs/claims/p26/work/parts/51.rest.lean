/-! a state that is taken back out of a slot -/
def pl_rest (Z : Nat → Int) (S : Nat → Nat → Int) (Fl : Nat → Int) (a : Int) : Int := if 0 ≤ a ∧ a < 2 then (if Fl a.toNat = 0 then -5 else zsum (dy_mo (zmix 115 (S a.toNat) Z)) 24 + 10000000) else -2
theorem zsum_rng {f : Nat → Int} {A : Int} : ∀ n : Nat, (∀ j : Nat, j < n → -A ≤ f j ∧ f j ≤ A) → -(A * (n : Int)) ≤ zsum f n ∧ zsum f n ≤ A * (n : Int)
  | 0, _ => by simp [zsum]
  | n + 1, h => by
    have ih := zsum_rng (f := f) (A := A) n (fun j hj => h j (by omega))
    have h1 := h n (by omega)
    have e : A * ((n + 1 : Nat) : Int) = A * (n : Int) + A := by
      rw [show ((n + 1 : Nat) : Int) = (n : Int) + 1 by omega, Int.mul_add, Int.mul_one]
    unfold zsum
    omega
theorem dy_mo_sum {Z : Nat → Int} (hV : VL Z) : -2664000 ≤ zsum (dy_mo Z) 24 ∧ zsum (dy_mo Z) 24 ≤ 2664000 := by
  have h := zsum_rng (f := dy_mo Z) (A := 111000) 24 (fun j hj => by
    have hp := hV.plan hj
    exact hr_mo_rng hV hj (dy_lev Z j) (by omega))
  omega
