/-! the inner rows of an array of arrays: n rows of w ints each, at the addresses rw -/
def kRows (T : Nat → ClassId) (rw : Nat → Nat) (n w : Nat) (G : Nat → Nat → Int) : va_W := (List.range n).map (fun i => (rw i, .inl (T 0, w, .inl (zA (G i)))))
def gup (G : Nat → Nat → Int) (i : Nat) (F : Nat → Int) : Nat → Nat → Int := fun j => if j = i then F else G j
theorem gup_s (G : Nat → Nat → Int) (i : Nat) (F : Nat → Int) : gup G i F i = F := if_pos rfl
theorem gup_n {G : Nat → Nat → Int} {i j : Nat} {F : Nat → Int} (h : j ≠ i) : gup G i F j = G j := if_neg h
theorem kRows_len {T : Nat → ClassId} {rw : Nat → Nat} {n w : Nat} {G : Nat → Nat → Int} : (kRows T rw n w G).length = n := by simp [kRows]
theorem kRows_at {T : Nat → ClassId} {rw : Nat → Nat} {n w i : Nat} {G : Nat → Nat → Int} (h : i < n) : (kRows T rw n w G)[i]? = some (rw i, .inl (T 0, w, .inl (zA (G i)))) := by
  unfold kRows
  rw [List.getElem?_map, List.getElem?_range h]
  rfl
theorem kRows_get {T : Nat → ClassId} {rw : Nat → Nat} {n w i : Nat} {G : Nat → Nat → Int} {X : va_W} (h : i < n) : (X ++ kRows T rw n w G)[X.length + i]? = some (rw i, .inl (T 0, w, .inl (zA (G i)))) := by
  rw [List.getElem?_append_right (Nat.le_add_right _ _), Nat.add_sub_cancel_left]
  exact kRows_at h
theorem kRows_set {T : Nat → ClassId} {rw : Nat → Nat} {n w i : Nat} {G : Nat → Nat → Int} {X : va_W} {F : Nat → Int} : (X ++ kRows T rw n w G).set (X.length + i) (rw i, .inl (T 0, w, .inl (zA F))) = X ++ kRows T rw n w (gup G i F) := by
  rw [List.set_append_right _ _ (Nat.le_add_right _ _), Nat.add_sub_cancel_left]
  congr 1
  apply List.ext_getElem?
  intro k
  by_cases hk : k < n
  · rw [kRows_at hk]
    by_cases hki : i = k
    · subst hki
      rw [List.getElem?_set_self (by rw [kRows_len]; exact hk), gup_s]
    · rw [List.getElem?_set_ne hki, kRows_at hk, gup_n (Ne.symm hki)]
  · rw [List.getElem?_eq_none (by rw [List.length_set, kRows_len]; omega), List.getElem?_eq_none (by rw [kRows_len]; omega)]
theorem kRows_fst {T : Nat → ClassId} {rw : Nat → Nat} {n w : Nat} {G G' : Nat → Nat → Int} : (kRows T rw n w G).map Prod.fst = (kRows T rw n w G').map Prod.fst := by
  unfold kRows
  rw [List.map_map, List.map_map]
  rfl
theorem gup_id (G : Nat → Nat → Int) (i : Nat) : gup G i (G i) = G := by
  funext j
  unfold gup
  split
  · rename_i h
    rw [h]
  · rfl
