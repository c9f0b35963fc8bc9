/-! one order -/
def or_r (Z : Nat → Int) (q3 q4 q5 q6 q7 q8 q9 : Int) : Int := if q3 = 97 then (if bv NOP Z 24 (Z 7) = NOP then -5 else ad_c Z 24) else if q3 = 99 then lk_rCon Z q4 q7 q8 q9 else if q5 < q4 then -2 else oo_r q3 q6 (q5 - q4 + 1).toNat q4 Z (-1)
def or_z (Z : Nat → Int) (q3 q4 q5 q6 q7 q8 q9 : Int) : Nat → Int := if q3 = 97 then (if bv NOP Z 24 (Z 7) = NOP then Z else pl_ad Z 24) else if q3 = 99 then lk_zCon Z q4 q7 q8 q9 else if q5 < q4 then Z else oo_z q3 q6 (q5 - q4 + 1).toNat q4 Z
def or_v (Z : Nat → Int) (q3 q4 q5 q6 q7 q8 q9 ve : Int) : Int := if q3 = 97 then ve else if q3 = 99 then lk_vCon Z q4 q7 q8 q9 ve else if q5 < q4 then ve else oo_v q3 q6 (q5 - q4 + 1).toNat q4 Z ve
theorem lk_vCon_rng (Z : Nat → Int) (a b c d ve : Int) : ve ≤ lk_vCon Z a b c d ve ∧ lk_vCon Z a b c d ve ≤ ve + 1 := by
  unfold lk_vCon
  split <;> omega
theorem lk_con_same {Z : Nat → Int} {a b c d ve : Int} (q : lk_vCon Z a b c d ve = ve) : lk_zCon Z a b c d = Z := by
  unfold lk_vCon at q
  unfold lk_zCon
  split at q
  · omega
  · rename_i w
    rw [if_neg w]
