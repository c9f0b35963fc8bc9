/-! the ranges of the answers of the changes -/
theorem lk_rPrice_rng {Z : Nat → Int} (hV : VL Z) (a b : Int) : -2 ≤ lk_rAt 10 999 Z a b ∧ lk_rAt 10 999 Z a b ≤ 999 := by
  unfold lk_rAt
  split
  · have := (hV.2.1 a.toNat (by omega)).1
    split <;> omega
  · omega
theorem lk_rInflow_rng {Z : Nat → Int} (hV : VL Z) (a b : Int) : -2 ≤ lk_rAt 34 99 Z a b ∧ lk_rAt 34 99 Z a b ≤ 99 := by
  unfold lk_rAt
  split
  · have := (hV.2.1 a.toNat (by omega)).2.1
    split <;> omega
  · omega
theorem lk_rPlan_rng {Z : Nat → Int} (hV : VL Z) (a b : Int) : -2 ≤ lk_rPlan Z a b ∧ lk_rPlan Z a b ≤ 130 := by
  have hs := hV.1
  unfold VS at hs
  unfold lk_rPlan
  split
  · have := (hV.2.1 a.toNat (by omega)).2.2
    split <;> omega
  · omega
theorem lk_rCon_rng {Z : Nat → Int} (hV : VL Z) (a b c d : Int) : -4 ≤ lk_rCon Z a b c d ∧ lk_rCon Z a b c d ≤ 8 := by
  have hs := hV.1
  unfold VS at hs
  unfold lk_rCon
  split
  · split
    · split <;> omega
    · omega
  · omega
theorem lk_rDrop_rng {Z : Nat → Int} (hV : VL Z) (c : Int) : -1 ≤ lk_rDrop Z c ∧ lk_rDrop Z c ≤ 7 := by
  have hs := hV.1
  unfold VS at hs
  unfold lk_rDrop
  split <;> omega
theorem lk_rSet_rng {Z : Nat → Int} (hV : VL Z) (st v : Int) : -5 ≤ lk_rSet Z st v ∧ lk_rSet Z st v ≤ 999 := by
  have hs := hV.1
  unfold VS at hs
  unfold lk_rSet
  split
  · rename_i q
    split
    · obtain ⟨n, rfl⟩ := Int.eq_ofNat_of_zero_le q.1.1
      have hn : n = 0 ∨ n = 1 ∨ n = 2 ∨ n = 3 ∨ n = 4 ∨ n = 5 ∨ n = 6 ∨ n = 7 ∨ n = 8 ∨ n = 9 := by omega
      rw [show ((n : Nat) : Int).toNat = n by omega]
      rcases hn with rfl | rfl | rfl | rfl | rfl | rfl | rfl | rfl | rfl | rfl <;> omega
    · omega
  · omega
theorem kMV.call {nm : String} {F : Nat → Int} {mv : Nat} {A B : Nat → Prop} {U : State} {H0 H : Heap} {locs : List Loc} (h : kMV nm F mv A U H0) (hS : va_S A H0 H locs) (hF : ∀ q, B q → A q) : kMV nm F mv B U H := (h.kept (fun q hq hn => hS.2.1 q hq hn)).narrow hF
def MON : Int := 10000000
