/-! texts: what stands at a place of the pad, and how orders are read from it -/
def pd_s (P : Nat → Int) (n i : Nat) : Int := if i < n then P i else 0
/-- how many signs a number takes that begins at i (0: none begins there), and its value -/
def pn_len (P : Nat → Int) (n i : Nat) : Nat := if 48 ≤ pd_s P n i ∧ pd_s P n i ≤ 57 then (if pd_s P n i = 48 then 1 else if 48 ≤ pd_s P n (i + 1) ∧ pd_s P n (i + 1) ≤ 57 then (if 48 ≤ pd_s P n (i + 2) ∧ pd_s P n (i + 2) ≤ 57 then 3 else 2) else 1) else 0
def pn_val (P : Nat → Int) (n i : Nat) : Int := if pn_len P n i = 1 then pd_s P n i - 48 else if pn_len P n i = 2 then (pd_s P n i - 48) * 10 + (pd_s P n (i + 1) - 48) else ((pd_s P n i - 48) * 10 + (pd_s P n (i + 1) - 48)) * 10 + (pd_s P n (i + 2) - 48)
def pn_end (P : Nat → Int) (n i : Nat) : Nat := i + pn_len P n i
/-- hours: whether they can be read from i, where the reader stops, the second hour (the first one is pn_val) -/
def ph_ok (P : Nat → Int) (n i : Nat) : Int := if pn_len P n i = 0 then 0 else if pd_s P n (pn_end P n i) = 45 then (if pn_len P n (pn_end P n i + 1) = 0 then 0 else 1) else 1
def ph_end (P : Nat → Int) (n i : Nat) : Nat := if pn_len P n i = 0 then i else if pd_s P n (pn_end P n i) = 45 then pn_end P n (pn_end P n i + 1) else pn_end P n i
def ph_last (P : Nat → Int) (n i : Nat) : Int := if pd_s P n (pn_end P n i) = 45 then pn_val P n (pn_end P n i + 1) else pn_val P n i
/-- the value of an order of the kind k -/
def pv_at (P : Nat → Int) (n : Nat) (k : Int) (i : Nat) : Nat := if k = 117 ∧ pd_s P n i = 45 then i + 1 else i
def pv_val (P : Nat → Int) (n : Nat) (k : Int) (i : Nat) : Int := if k = 117 ∧ pd_s P n i = 45 then -(pn_val P n (i + 1)) else pn_val P n i
/-- a number, and a sign behind it: whether both can be read, and where the reader stops -/
def pq_ok (P : Nat → Int) (n : Nat) (c : Int) (i : Nat) : Int := if pn_len P n i = 0 then 0 else if pd_s P n (pn_end P n i) = c then 1 else 0
def pq_end (P : Nat → Int) (n : Nat) (c : Int) (i : Nat) : Nat := if pn_len P n i = 0 then i else if pd_s P n (pn_end P n i) = c then pn_end P n i + 1 else pn_end P n i
/-- a contract: four numbers, with ':', '+' and '-' between -/
def pc_a (P : Nat → Int) (n i : Nat) : Nat := pq_end P n 58 i
def pc_b (P : Nat → Int) (n i : Nat) : Nat := pq_end P n 43 (pc_a P n i)
def pc_c (P : Nat → Int) (n i : Nat) : Nat := pq_end P n 45 (pc_b P n i)
def pc_ok (P : Nat → Int) (n i : Nat) : Int := if pq_ok P n 58 i = 0 then 0 else if pq_ok P n 43 (pc_a P n i) = 0 then 0 else if pq_ok P n 45 (pc_b P n i) = 0 then 0 else if pn_len P n (pc_c P n i) = 0 then 0 else 1
def pc_end (P : Nat → Int) (n i : Nat) : Nat := if pq_ok P n 58 i = 0 then pc_a P n i else if pq_ok P n 43 (pc_a P n i) = 0 then pc_b P n i else if pq_ok P n 45 (pc_b P n i) = 0 then pc_c P n i else pn_end P n (pc_c P n i)
/-- hours, '=' and a value -/
def ps_ok (P : Nat → Int) (n : Nat) (k : Int) (i : Nat) : Int := if ph_ok P n i = 0 then 0 else if pd_s P n (ph_end P n i) = 61 then (if pn_len P n (pv_at P n k (ph_end P n i + 1)) = 0 then 0 else 1) else 0
def ps_end (P : Nat → Int) (n : Nat) (k : Int) (i : Nat) : Nat := if ph_ok P n i = 0 then ph_end P n i else if pd_s P n (ph_end P n i) = 61 then pn_end P n (pv_at P n k (ph_end P n i + 1)) else ph_end P n i
/-- an order -/
def po_ok (P : Nat → Int) (n i : Nat) : Int := if pd_s P n i = 97 then 1 else if pd_s P n i = 99 then pc_ok P n (i + 1) else if pd_s P n i = 112 ∨ pd_s P n i = 105 ∨ pd_s P n i = 117 then ps_ok P n (pd_s P n i) (i + 1) else 0
def po_end (P : Nat → Int) (n i : Nat) : Nat := if pd_s P n i = 97 then i + 1 else if pd_s P n i = 99 then pc_end P n (i + 1) else if pd_s P n i = 112 ∨ pd_s P n i = 105 ∨ pd_s P n i = 117 then ps_end P n (pd_s P n i) (i + 1) else i
/-- what the pad holds -/
def VP (P : Nat → Int) (n : Nat) : Prop := n ≤ 80 ∧ ∀ j : Nat, j < n → 33 ≤ P j ∧ P j ≤ 126
theorem pd_s_rng {P : Nat → Int} {n : Nat} (h : VP P n) (i : Nat) : 0 ≤ pd_s P n i ∧ pd_s P n i ≤ 126 ∧ (i < n → 33 ≤ pd_s P n i) ∧ (n ≤ i → pd_s P n i = 0) := by
  unfold pd_s
  by_cases hi : i < n
  · have := h.2 i hi
    rw [if_pos hi]
    omega
  · rw [if_neg hi]
    omega
theorem pd_s_pos {P : Nat → Int} {n i : Nat} (h : pd_s P n i ≠ 0) : i < n := by
  unfold pd_s at h
  split at h
  · assumption
  · exact absurd rfl h
theorem pn_len_le (P : Nat → Int) (n i : Nat) : pn_len P n i ≤ 3 := by
  unfold pn_len
  repeat' split
  all_goals omega
theorem pn_rng {P : Nat → Int} {n : Nat} (i : Nat) (h : pn_len P n i ≠ 0) : 0 ≤ pn_val P n i ∧ pn_val P n i ≤ 999 := by
  have e : pn_len P n i = 1 ∨ pn_len P n i = 2 ∨ pn_len P n i = 3 := by have := pn_len_le P n i; omega
  have h0 : 48 ≤ pd_s P n i ∧ pd_s P n i ≤ 57 := by
    by_cases q : 48 ≤ pd_s P n i ∧ pd_s P n i ≤ 57
    · exact q
    · unfold pn_len at h; rw [if_neg q] at h; exact absurd rfl h
  have h1 : pn_len P n i ≠ 1 → 48 ≤ pd_s P n (i + 1) ∧ pd_s P n (i + 1) ≤ 57 := fun q => by
    unfold pn_len at q
    rw [if_pos h0] at q
    split at q
    · exact absurd rfl q
    · split at q
      · assumption
      · exact absurd rfl q
  have h2 : pn_len P n i = 3 → 48 ≤ pd_s P n (i + 2) ∧ pd_s P n (i + 2) ≤ 57 := fun q => by
    unfold pn_len at q
    rw [if_pos h0] at q
    split at q
    · omega
    · split at q
      · split at q
        · assumption
        · omega
      · omega
  unfold pn_val
  rcases e with e | e | e
  · rw [if_pos e]; omega
  · rw [if_neg (by omega), if_pos e]
    have := h1 (by omega)
    omega
  · rw [if_neg (by omega), if_neg (by omega)]
    have := h1 (by omega)
    have := h2 e
    omega
/-- a number ends within the pad -/
theorem pn_end_le {P : Nat → Int} {n i : Nat} (hi : i ≤ n) : pn_end P n i ≤ n := by
  have a0 : 48 ≤ pd_s P n i → i < n := fun q => pd_s_pos (P := P) (by omega)
  have a1 : 48 ≤ pd_s P n (i + 1) → i + 1 < n := fun q => pd_s_pos (P := P) (by omega)
  have a2 : 48 ≤ pd_s P n (i + 2) → i + 2 < n := fun q => pd_s_pos (P := P) (by omega)
  unfold pn_end pn_len
  repeat' split
  all_goals omega
theorem kz_narC {x : Int} (h : 0 ≤ x ∧ x < 65536) : narrow .char (.int (iz x)) = .int (iz x) ∧ fits .char (.int (iz x)) = true := by
  obtain ⟨q, rfl⟩ := Int.eq_ofNat_of_zero_le h.1
  rw [iz_nI]
  exact pk_charN (by omega)
theorem pd_lt {P : Nat → Int} {n i : Nat} {c : Int} (h : pd_s P n i = c) (hc : c ≠ 0) : i < n := pd_s_pos (P := P) (by omega)
theorem ph_end_le {P : Nat → Int} {n i : Nat} (hi : i ≤ n) : ph_end P n i ≤ n := by
  have h1 := pn_end_le (P := P) hi
  unfold ph_end
  split
  · exact hi
  · split
    · rename_i h
      exact pn_end_le (pd_lt h (by omega))
    · exact h1
theorem pv_at_le {P : Nat → Int} {n i : Nat} (k : Int) (hi : i ≤ n) : pv_at P n k i ≤ n := by
  unfold pv_at
  split
  · rename_i h
    exact pd_lt h.2 (by omega)
  · exact hi
theorem pq_end_le {P : Nat → Int} {n i : Nat} {c : Int} (hc : c ≠ 0) (hi : i ≤ n) : pq_end P n c i ≤ n := by
  unfold pq_end
  split
  · exact hi
  · split
    · rename_i h
      exact pd_lt h hc
    · exact pn_end_le hi
theorem pc_a_le {P : Nat → Int} {n i : Nat} (hi : i ≤ n) : pc_a P n i ≤ n := pq_end_le (by omega) hi
theorem pc_b_le {P : Nat → Int} {n i : Nat} (hi : i ≤ n) : pc_b P n i ≤ n := pq_end_le (by omega) (pc_a_le hi)
theorem pc_c_le {P : Nat → Int} {n i : Nat} (hi : i ≤ n) : pc_c P n i ≤ n := pq_end_le (by omega) (pc_b_le hi)
theorem pc_end_le {P : Nat → Int} {n i : Nat} (hi : i ≤ n) : pc_end P n i ≤ n := by
  unfold pc_end
  split
  · exact pc_a_le hi
  · split
    · exact pc_b_le hi
    · split
      · exact pc_c_le hi
      · exact pn_end_le (pc_c_le hi)
theorem ps_end_le {P : Nat → Int} {n i : Nat} (k : Int) (hi : i ≤ n) : ps_end P n k i ≤ n := by
  have h1 := ph_end_le (P := P) hi
  unfold ps_end
  split
  · exact h1
  · split
    · rename_i h
      exact pn_end_le (pv_at_le k (pd_lt h (by omega)))
    · exact h1
theorem po_end_le {P : Nat → Int} {n i : Nat} (hi : i ≤ n) : po_end P n i ≤ n := by
  unfold po_end
  split
  · rename_i h
    exact pd_lt h (by omega)
  · split
    · rename_i h
      exact pc_end_le (pd_lt h (by omega))
    · split
      · rename_i h
        have h2 : i < n := by
          rcases h with h | h | h
          · exact pd_lt h (by omega)
          · exact pd_lt h (by omega)
          · exact pd_lt h (by omega)
        exact ps_end_le _ h2
      · exact hi
/-- what an order of the text says, once it is read -/
def po_c (P : Nat → Int) (n i : Nat) (f u b g : Int) : Prop := pd_s P n i = 99 → f = pn_val P n (i + 1) ∧ u = pn_val P n (pc_a P n (i + 1)) ∧ b = pn_val P n (pc_b P n (i + 1)) ∧ g = pn_val P n (pc_c P n (i + 1))
def po_h (P : Nat → Int) (n i : Nat) (f l v : Int) : Prop := (pd_s P n i = 112 ∨ pd_s P n i = 105 ∨ pd_s P n i = 117) → f = pn_val P n (i + 1) ∧ l = ph_last P n (i + 1) ∧ v = pv_val P n (pd_s P n i) (ph_end P n (i + 1) + 1)
theorem pn_end_ge (P : Nat → Int) (n i : Nat) : i ≤ pn_end P n i := Nat.le_add_right _ _
theorem ph_end_ge (P : Nat → Int) (n i : Nat) : i ≤ ph_end P n i := by
  have h1 := pn_end_ge P n i
  have h2 := pn_end_ge P n (pn_end P n i + 1)
  unfold ph_end
  (repeat' split) <;> omega
theorem pq_end_ge (P : Nat → Int) (n i : Nat) (c : Int) : i ≤ pq_end P n c i := by
  have h1 := pn_end_ge P n i
  unfold pq_end
  (repeat' split) <;> omega
theorem pc_end_ge (P : Nat → Int) (n i : Nat) : i ≤ pc_end P n i := by
  have h1 : i ≤ pc_a P n i := pq_end_ge P n i 58
  have h2 : pc_a P n i ≤ pc_b P n i := pq_end_ge P n _ 43
  have h3 : pc_b P n i ≤ pc_c P n i := pq_end_ge P n _ 45
  have h4 := pn_end_ge P n (pc_c P n i)
  unfold pc_end
  (repeat' split) <;> omega
theorem pv_at_ge (P : Nat → Int) (n : Nat) (k : Int) (i : Nat) : i ≤ pv_at P n k i := by
  unfold pv_at
  split <;> omega
theorem ps_end_ge (P : Nat → Int) (n i : Nat) (k : Int) : i ≤ ps_end P n k i := by
  have h1 := ph_end_ge P n i
  have h2 := pv_at_ge P n k (ph_end P n i + 1)
  have h3 := pn_end_ge P n (pv_at P n k (ph_end P n i + 1))
  unfold ps_end
  (repeat' split) <;> omega
theorem po_end_ge {P : Nat → Int} {n i : Nat} (h : po_ok P n i ≠ 0) : i + 1 ≤ po_end P n i := by
  have h1 := pc_end_ge P n (i + 1)
  have h2 := ps_end_ge P n (i + 1) (pd_s P n i)
  unfold po_end
  unfold po_ok at h
  split
  · omega
  · rename_i q1
    rw [if_neg q1] at h
    split
    · exact h1
    · rename_i q2
      rw [if_neg q2] at h
      split
      · exact h2
      · rename_i q3
        rw [if_neg q3] at h
        exact absurd rfl h
/-- the fault of the pad, read from place i on; f: how many orders are read at most -/
def pf_go (P : Nat → Int) (n : Nat) : Nat → Nat → Int
  | 0, i => (i : Int)
  | f + 1, i => if po_ok P n i = 0 then (po_end P n i : Int) else if n ≤ po_end P n i then -6 else if pd_s P n (po_end P n i) = 59 then pf_go P n f (po_end P n i + 1) else (po_end P n i : Int)
def pd_fault (P : Nat → Int) (n : Nat) : Int := pf_go P n 80 0
