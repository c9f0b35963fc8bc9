/-! a state that is kept, and taken back -/
def pl_save (Z : Nat → Int) (a : Int) : Int := if 0 ≤ a ∧ a < 2 then zsum (dy_mo Z) 24 + 10000000 else -2
