theorem ph_ok01 (P : Nat → Int) (n i : Nat) : ph_ok P n i = 0 ∨ ph_ok P n i = 1 := by
  unfold ph_ok
  (repeat' split) <;> omega
theorem pc_ok01 (P : Nat → Int) (n i : Nat) : pc_ok P n i = 0 ∨ pc_ok P n i = 1 := by
  unfold pc_ok
  (repeat' split) <;> omega
theorem ps_ok01 (P : Nat → Int) (n : Nat) (k : Int) (i : Nat) : ps_ok P n k i = 0 ∨ ps_ok P n k i = 1 := by
  unfold ps_ok
  (repeat' split) <;> omega
theorem po_ok01 (P : Nat → Int) (n i : Nat) : po_ok P n i = 0 ∨ po_ok P n i = 1 := by
  have h1 := pc_ok01 P n (i + 1)
  have h2 := ps_ok01 P n (pd_s P n i) (i + 1)
  unfold po_ok
  (repeat' split) <;> omega
