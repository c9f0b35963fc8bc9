/-! the orders of a text, carried out -/
theorem VL_or {Z : Nat → Int} (hV : VL Z) (q3 q4 q5 q6 q7 q8 q9 : Int) : VL (or_z Z q3 q4 q5 q6 q7 q8 q9) := by
  unfold or_z
  split
  · split
    · exact hV
    · rename_i h
      exact VL_ad hV h 24 (Nat.le_refl _)
  · split
    · exact VL_zCon hV _ _ _ _
    · split
      · exact hV
      · exact VL_oo _ _ _ _ _ hV
theorem or_v_rng (Z : Nat → Int) {q3 q4 q5 q6 q7 q8 q9 ve : Int} (h : q3 ≠ 97 → q3 ≠ 99 → q5 - q4 ≤ 1000) : ve ≤ or_v Z q3 q4 q5 q6 q7 q8 q9 ve ∧ or_v Z q3 q4 q5 q6 q7 q8 q9 ve ≤ ve + 1001 := by
  unfold or_v
  split
  · omega
  · split
    · have := lk_vCon_rng Z q4 q7 q8 q9 ve
      omega
    · split
      · omega
      · have := oo_v_rng q3 q6 (q5 - q4 + 1).toNat q4 Z ve
        omega
theorem or_r_rng {Z : Nat → Int} (hV : VL Z) (q3 q4 q5 q6 q7 q8 q9 : Int) : -5 ≤ or_r Z q3 q4 q5 q6 q7 q8 q9 ∧ or_r Z q3 q4 q5 q6 q7 q8 q9 ≤ 1000 := by
  unfold or_r
  split
  · split
    · omega
    · have := ad_c_rng Z 24
      omega
  · split
    · have := lk_rCon_rng hV q4 q7 q8 q9
      omega
    · split
      · omega
      · have := oo_r_rng q3 q6 (q5 - q4 + 1).toNat q4 Z (-1) hV (by omega)
        omega
theorem or_cong (Z : Nat → Int) {q3 q4 q5 q6 q7 q8 q9 p4 p5 p6 p7 p8 p9 : Int} (h1 : q3 = 99 → q4 = p4 ∧ q7 = p7 ∧ q8 = p8 ∧ q9 = p9) (h2 : q3 ≠ 97 → q3 ≠ 99 → q4 = p4 ∧ q5 = p5 ∧ q6 = p6) : or_r Z q3 q4 q5 q6 q7 q8 q9 = or_r Z q3 p4 p5 p6 p7 p8 p9 ∧ or_z Z q3 q4 q5 q6 q7 q8 q9 = or_z Z q3 p4 p5 p6 p7 p8 p9 ∧ ∀ ve : Int, or_v Z q3 q4 q5 q6 q7 q8 q9 ve = or_v Z q3 p4 p5 p6 p7 p8 p9 ve := by
  unfold or_r or_z or_v
  by_cases a : q3 = 97
  · rw [if_pos a, if_pos a, if_pos a, if_pos a]
    exact ⟨rfl, rfl, fun ve => by rw [if_pos a, if_pos a]⟩
  · by_cases b : q3 = 99
    · obtain ⟨rfl, rfl, rfl, rfl⟩ := h1 b
      rw [if_neg a, if_neg a, if_neg a, if_neg a, if_pos b, if_pos b, if_pos b, if_pos b]
      exact ⟨rfl, rfl, fun ve => by rw [if_neg a, if_neg a, if_pos b, if_pos b]⟩
    · obtain ⟨rfl, rfl, rfl⟩ := h2 a b
      rw [if_neg a, if_neg a, if_neg a, if_neg a, if_neg b, if_neg b, if_neg b, if_neg b]
      exact ⟨rfl, rfl, fun ve => by rw [if_neg a, if_neg a, if_neg b, if_neg b]⟩
/-- the order that stands at place i -/
def ot_r (P : Nat → Int) (n i : Nat) (Z : Nat → Int) : Int := or_r Z (pd_s P n i) (pn_val P n (i + 1)) (ph_last P n (i + 1)) (pv_val P n (pd_s P n i) (ph_end P n (i + 1) + 1)) (pn_val P n (pc_a P n (i + 1))) (pn_val P n (pc_b P n (i + 1))) (pn_val P n (pc_c P n (i + 1)))
def ot_z (P : Nat → Int) (n i : Nat) (Z : Nat → Int) : Nat → Int := or_z Z (pd_s P n i) (pn_val P n (i + 1)) (ph_last P n (i + 1)) (pv_val P n (pd_s P n i) (ph_end P n (i + 1) + 1)) (pn_val P n (pc_a P n (i + 1))) (pn_val P n (pc_b P n (i + 1))) (pn_val P n (pc_c P n (i + 1)))
def ot_v (P : Nat → Int) (n i : Nat) (Z : Nat → Int) (ve : Int) : Int := or_v Z (pd_s P n i) (pn_val P n (i + 1)) (ph_last P n (i + 1)) (pv_val P n (pd_s P n i) (ph_end P n (i + 1) + 1)) (pn_val P n (pc_a P n (i + 1))) (pn_val P n (pc_b P n (i + 1))) (pn_val P n (pc_c P n (i + 1))) ve
/-- from place i on, when k orders have been done -/
def ct_go (P : Nat → Int) (n : Nat) : Nat → Nat → Nat → (Nat → Int) → Int → Nat × (Nat → Int) × Int
  | 0, k, _, Z, v => (k, Z, v)
  | f + 1, k, i, Z, v => if po_ok P n i = 0 then (k, Z, v) else if ot_r P n i Z < 0 then (k, ot_z P n i Z, ot_v P n i Z v) else ct_go P n f (k + 1) (if pd_s P n (po_end P n i) = 59 then po_end P n i + 1 else po_end P n i) (ot_z P n i Z) (ot_v P n i Z v)
def ca_n (P : Nat → Int) (n : Nat) (Z : Nat → Int) (v : Int) : Nat := (ct_go P n 80 0 0 Z v).1
def ca_r (P : Nat → Int) (n : Nat) (Z : Nat → Int) (v : Int) : Int := if pd_fault P n = -6 then ((ca_n P n Z v : Nat) : Int) else -3
def ca_z (P : Nat → Int) (n : Nat) (Z : Nat → Int) (v : Int) : Nat → Int := if pd_fault P n = -6 then (ct_go P n 80 0 0 Z v).2.1 else Z
def ca_v (P : Nat → Int) (n : Nat) (Z : Nat → Int) (v : Int) : Int := if pd_fault P n = -6 then (ct_go P n 80 0 0 Z v).2.2 else v
theorem po_kind {P : Nat → Int} {n i : Nat} (h : po_ok P n i = 1) : pd_s P n i = 97 ∨ (pd_s P n i = 99 ∧ pc_ok P n (i + 1) = 1) ∨ ((pd_s P n i = 112 ∨ pd_s P n i = 105 ∨ pd_s P n i = 117) ∧ ph_ok P n (i + 1) = 1) := by
  unfold po_ok at h
  split at h
  · omega
  · split at h
    · omega
    · split at h
      · rename_i q
        have := ph_ok01 P n (i + 1)
        unfold ps_ok at h
        split at h
        · omega
        · omega
      · omega
theorem pn_big {P : Nat → Int} {n : Nat} (h : VP P n) (i : Nat) : -1000000 ≤ pn_val P n i ∧ pn_val P n i ≤ 1000000 := by
  have h1 := pd_s_rng h i
  have h2 := pd_s_rng h (i + 1)
  have h3 := pd_s_rng h (i + 2)
  unfold pn_val
  split
  · omega
  · split <;> omega
theorem pv_big {P : Nat → Int} {n : Nat} (h : VP P n) (k : Int) (i : Nat) : -1000000 ≤ pv_val P n k i ∧ pv_val P n k i ≤ 1000000 := by
  have h1 := pn_big h i
  have h2 := pn_big h (i + 1)
  unfold pv_val
  split <;> omega
theorem ph_rng {P : Nat → Int} {n i : Nat} (h : ph_ok P n i = 1) : (0 ≤ pn_val P n i ∧ pn_val P n i ≤ 999) ∧ (0 ≤ ph_last P n i ∧ ph_last P n i ≤ 999) := by
  unfold ph_ok at h
  by_cases a : pn_len P n i = 0
  · rw [if_pos a] at h; omega
  · have h1 := pn_rng i a
    rw [if_neg a] at h
    unfold ph_last
    by_cases b : pd_s P n (pn_end P n i) = 45
    · rw [if_pos b] at h
      have a2 : pn_len P n (pn_end P n i + 1) ≠ 0 := fun q => by rw [if_pos q] at h; omega
      rw [if_pos b]
      exact ⟨h1, pn_rng _ a2⟩
    · rw [if_neg b]
      exact ⟨h1, h1⟩
theorem ot_eq {P : Nat → Int} {n i : Nat} (Z : Nat → Int) {u2 u3 u4 u5 u6 u7 : Int} (hk : po_ok P n i = 1) (hc : po_c P n i u2 u5 u6 u7) (hh : po_h P n i u2 u3 u4) : or_r Z (pd_s P n i) u2 u3 u4 u5 u6 u7 = ot_r P n i Z ∧ or_z Z (pd_s P n i) u2 u3 u4 u5 u6 u7 = ot_z P n i Z ∧ ∀ ve : Int, or_v Z (pd_s P n i) u2 u3 u4 u5 u6 u7 ve = ot_v P n i Z ve := by
  have := po_kind hk
  exact or_cong Z (fun q => by obtain ⟨a, b, c, d⟩ := hc q; exact ⟨a, b, c, d⟩) (fun q r => by obtain ⟨a, b, c⟩ := hh (by omega); exact ⟨a, b, c⟩)
theorem ot_v_rng {P : Nat → Int} {n i : Nat} (Z : Nat → Int) (hk : po_ok P n i = 1) (ve : Int) : ve ≤ ot_v P n i Z ve ∧ ot_v P n i Z ve ≤ ve + 1001 := by
  have h := po_kind hk
  exact or_v_rng Z (fun a b => by
    have := ph_rng (P := P) (n := n) (i := i + 1) (by omega)
    omega)
theorem ct_go_rng {P : Nat → Int} {n : Nat} : ∀ (f k i : Nat) (Z : Nat → Int) (v : Int), VL Z → (k ≤ (ct_go P n f k i Z v).1 ∧ (ct_go P n f k i Z v).1 ≤ k + f) ∧ VL (ct_go P n f k i Z v).2.1 ∧ (v ≤ (ct_go P n f k i Z v).2.2 ∧ (ct_go P n f k i Z v).2.2 ≤ v + 1001 * (f : Int))
  | 0, k, i, Z, v, hV => ⟨⟨Nat.le_refl _, Nat.le_refl _⟩, hV, Int.le_refl _, by show v ≤ _; omega⟩
  | f + 1, k, i, Z, v, hV => by
    have h01 := po_ok01 P n i
    unfold ct_go
    by_cases a : po_ok P n i = 0
    · rw [if_pos a]
      exact ⟨⟨Nat.le_refl _, by show k ≤ _; omega⟩, hV, Int.le_refl _, by show v ≤ _; omega⟩
    · rw [if_neg a]
      have hv := ot_v_rng Z (show po_ok P n i = 1 by omega) v
      by_cases b : ot_r P n i Z < 0
      · rw [if_pos b]
        exact ⟨⟨Nat.le_refl _, by show k ≤ _; omega⟩, VL_or hV _ _ _ _ _ _ _, hv.1, by show ot_v P n i Z v ≤ _; omega⟩
      · rw [if_neg b]
        have ih := ct_go_rng (P := P) (n := n) f (k + 1) (if pd_s P n (po_end P n i) = 59 then po_end P n i + 1 else po_end P n i) (ot_z P n i Z) (ot_v P n i Z v) (VL_or hV _ _ _ _ _ _ _)
        generalize ct_go P n f (k + 1) (if pd_s P n (po_end P n i) = 59 then po_end P n i + 1 else po_end P n i) (ot_z P n i Z) (ot_v P n i Z v) = w at ih ⊢
        exact ⟨by omega, ih.2.1, by omega⟩
theorem pf_go_rng {P : Nat → Int} {n : Nat} : ∀ f i : Nat, i ≤ n → -6 ≤ pf_go P n f i ∧ pf_go P n f i ≤ (n : Int)
  | 0, i, hi => by
    show -6 ≤ (i : Int) ∧ (i : Int) ≤ (n : Int)
    omega
  | f + 1, i, hi => by
    have h1 := po_end_le (P := P) hi
    have h2 := pd_lt (P := P) (n := n) (i := po_end P n i) (c := 59)
    unfold pf_go
    split
    · omega
    · split
      · omega
      · split
        · rename_i w
          exact pf_go_rng f _ (by have := h2 w (by omega); omega)
        · omega
theorem pd_fault_rng (P : Nat → Int) (n : Nat) : -6 ≤ pd_fault P n ∧ pd_fault P n ≤ (n : Int) := pf_go_rng 80 0 (Nat.zero_le n)
