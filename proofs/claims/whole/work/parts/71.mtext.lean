/-! the reference's orders, read -/
def OC (P : Nat → Int) (n i : Nat) (O : Nat → Int) (b : Nat) : Prop := O (b + 1) = pn_val P n i ∧ O (b + 2) = pn_val P n (pc_a P n i) ∧ O (b + 3) = pn_val P n (pc_b P n i) ∧ O (b + 4) = pn_val P n (pc_c P n i)
def OS (P : Nat → Int) (n : Nat) (kd : Int) (i : Nat) (O : Nat → Int) (b : Nat) : Prop := O (b + 1) = pn_val P n i ∧ O (b + 2) = ph_last P n i ∧ O (b + 3) = pv_val P n kd (ph_end P n i + 1)
def OD (P : Nat → Int) (n i : Nat) (O : Nat → Int) (k : Nat) : Prop := O (5 * k) = pd_s P n i ∧ (pd_s P n i = 99 → OC P n (i + 1) O (5 * k)) ∧ (pd_s P n i ≠ 97 → pd_s P n i ≠ 99 → OS P n (pd_s P n i) (i + 1) O (5 * k))
/-- O is as U outside of the four numbers of an order -/
def OK4 (O U : Nat → Int) (b : Nat) : Prop := ∀ j : Nat, j ≤ b ∨ b + 5 ≤ j → O j = U j
theorem OK4.rf (O : Nat → Int) (b : Nat) : OK4 O O b := fun _ _ => rfl
theorem OK4.up {O U : Nat → Int} {b w : Nat} {v : Int} (h : OK4 O U b) (hw : 1 ≤ w ∧ w ≤ 4) : OK4 (zup O (b + w) v) U b := fun j hj => by
  unfold zup
  rw [if_neg (by omega)]
  exact h j hj
theorem OD.mono {P : Nat → Int} {n i : Nat} {O U : Nat → Int} {k : Nat} (h : OD P n i O k) (he : ∀ j : Nat, j < 5 * k + 5 → U j = O j) : OD P n i U k := by
  obtain ⟨a, b, c⟩ := h
  refine ⟨by rw [he _ (by omega)]; exact a, fun q => ?_, fun q r => ?_⟩
  · obtain ⟨b1, b2, b3, b4⟩ := b q
    exact ⟨by rw [he _ (by omega)]; exact b1, by rw [he _ (by omega)]; exact b2, by rw [he _ (by omega)]; exact b3, by rw [he _ (by omega)]; exact b4⟩
  · obtain ⟨b1, b2, b3⟩ := c q r
    exact ⟨by rw [he _ (by omega)]; exact b1, by rw [he _ (by omega)]; exact b2, by rw [he _ (by omega)]; exact b3⟩
/-- where the orders of a text begin -/
def tq (P : Nat → Int) (n : Nat) : Nat → Nat
  | 0 => 0
  | k + 1 => po_end P n (tq P n k) + 1
/-- a text of m orders -/
def TX (P : Nat → Int) (n : Nat) (O : Nat → Int) (m : Nat) : Prop := (1 ≤ m ∧ m ≤ 40) ∧ (∀ k : Nat, k < m → po_ok P n (tq P n k) = 1 ∧ OD P n (tq P n k) O k) ∧ (∀ k : Nat, k + 1 < m → pd_s P n (po_end P n (tq P n k)) = 59) ∧ po_end P n (tq P n (m - 1)) = n
theorem pf_go_s (P : Nat → Int) (n f i : Nat) : pf_go P n (f + 1) i = if po_ok P n i = 0 then (po_end P n i : Int) else if n ≤ po_end P n i then -6 else if pd_s P n (po_end P n i) = 59 then pf_go P n f (po_end P n i + 1) else (po_end P n i : Int) := rfl
theorem ct_go_v {P : Nat → Int} {n : Nat} : ∀ (f k i : Nat) (Z : Nat → Int) (v w : Int), (ct_go P n f k i Z v).1 = (ct_go P n f k i Z w).1 ∧ (ct_go P n f k i Z v).2.1 = (ct_go P n f k i Z w).2.1
  | 0, _, _, _, _, _ => ⟨rfl, rfl⟩
  | f + 1, k, i, Z, v, w => by
    have ih := ct_go_v (P := P) (n := n) f (k + 1) (if pd_s P n (po_end P n i) = 59 then po_end P n i + 1 else po_end P n i) (ot_z P n i Z) (ot_v P n i Z v) (ot_v P n i Z w)
    unfold ct_go
    split
    · exact ⟨rfl, rfl⟩
    · split
      · exact ⟨rfl, rfl⟩
      · exact ih
/-- hours from one to another, one by one -/
theorem oh_my {Z : Nat → Int} (hV : VL Z) {kd w h v : Int} (hw : w = if kd = 112 then 1 else if kd = 105 then 2 else 3) : (my_r Z w h v = 0 ↔ ¬ oh_r kd v Z h < 0) ∧ (my_r Z w h v = 0 → oh_z kd v Z h = zup Z (my_p w + h.toNat) v) ∧ (my_r Z w h v ≠ 0 → oh_z kd v Z h = Z) := by
  have hs := hV.1
  unfold VS at hs
  have hm := my_r_rng Z w h v
  have hin : my_r Z w h v = 0 → 0 ≤ h ∧ h < 24 := fun q => by
    unfold my_r at q
    split at q
    · assumption
    · omega
  have hH : my_r Z w h v = 0 → _ := fun q => hV.2.1 h.toNat (by have := hin q; omega)
  by_cases a : kd = 112
  · have e : w = 1 := by rw [hw, if_pos a]
    subst e
    have hp := my_price Z h v
    unfold oh_r oh_z
    rw [if_pos a, if_pos a, hp.1, hp.2]
    refine ⟨?_, fun q => ?_, fun q => ?_⟩
    · split
      · rename_i q
        have := (hH q).1
        omega
      · omega
    · unfold my_z; rw [if_pos q]
    · unfold my_z; rw [if_neg q]
  · by_cases b : kd = 105
    · have e : w = 2 := by rw [hw, if_neg a, if_pos b]
      subst e
      have hp := my_inflow Z h v
      unfold oh_r oh_z
      rw [if_neg a, if_neg a, if_pos b, if_pos b, hp.1, hp.2]
      refine ⟨?_, fun q => ?_, fun q => ?_⟩
      · split
        · rename_i q
          have := (hH q).2.1
          omega
        · omega
      · unfold my_z; rw [if_pos q]
      · unfold my_z; rw [if_neg q]
    · have e : w = 3 := by rw [hw, if_neg a, if_neg b]
      subst e
      have hp := my_plan Z (w := 3) (by omega) h v
      unfold oh_r oh_z
      rw [if_neg a, if_neg a, if_neg b, if_neg b, hp.1, hp.2]
      refine ⟨?_, fun q => ?_, fun q => ?_⟩
      · split
        · rename_i q
          have := (hH q).2.2
          omega
        · omega
      · unfold my_z; rw [if_pos q]
      · unfold my_z; rw [if_neg q]
theorem OS_fin {P X O : Nat → Int} {n i k a3 : Nat} {kd s : Int} (h1 : X (5 * k + 1) = pn_val P n i) (h2 : X (5 * k + 2) = ph_last P n i) (h3 : OK4 X O (5 * k)) (hok : ps_ok P n kd i = 1 → pn_len P n a3 ≠ 0 ∧ pn_val P n a3 * s = pv_val P n kd (ph_end P n i + 1)) : (ps_ok P n kd i = 1 → OS P n kd i (zup (if pn_len P n a3 = 0 then X else zup X (5 * k + 3) (pn_val P n a3)) (5 * k + 3) ((if pn_len P n a3 = 0 then X else zup X (5 * k + 3) (pn_val P n a3)) (5 * k + 3) * s)) (5 * k)) ∧ OK4 (zup (if pn_len P n a3 = 0 then X else zup X (5 * k + 3) (pn_val P n a3)) (5 * k + 3) ((if pn_len P n a3 = 0 then X else zup X (5 * k + 3) (pn_val P n a3)) (5 * k + 3) * s)) O (5 * k) := by
  constructor
  · intro q
    obtain ⟨q1, q2⟩ := hok q
    rw [if_neg q1]
    refine ⟨?_, ?_, ?_⟩
    · unfold zup; rw [if_neg (by omega), if_neg (by omega)]; exact h1
    · unfold zup; rw [if_neg (by omega), if_neg (by omega)]; exact h2
    · unfold zup; rw [if_pos rfl, if_pos rfl]; exact q2
  · refine OK4.up ?_ (by omega)
    split
    · exact h3
    · exact h3.up (by omega)
theorem OD_of {P O U : Nat → Int} {n i k : Nat} (h : OK4 U (zup O (5 * k) (pd_s P n i)) (5 * k)) : U (5 * k) = pd_s P n i ∧ ∀ j : Nat, j < 5 * k → U j = O j := by
  refine ⟨by rw [h _ (Or.inl (Nat.le_refl _))]; exact zup_s _ _ _, fun j hj => ?_⟩
  rw [h j (Or.inl (by omega))]
  unfold zup
  rw [if_neg (by omega)]
