/-! what every change keeps to -/
theorem VL_price {Z : Nat → Int} (hV : VL Z) {h0 : Nat} (hh0 : h0 < 24) {v : Int} (hv : 0 ≤ v ∧ v ≤ 999) : VL (zup Z (10 + h0) v) := by
  have e : ∀ k : Nat, k ≠ 10 + h0 → zup Z (10 + h0) v k = Z k := fun k hk => zup_n hk
  refine ⟨by unfold VS; rw [e 0 (by omega), e 1 (by omega), e 2 (by omega), e 3 (by omega), e 4 (by omega), e 5 (by omega), e 6 (by omega), e 7 (by omega), e 8 (by omega), e 9 (by omega), e 114 (by omega)]; exact hV.1, fun h hh => ?_, fun c hc => ?_⟩
  · rw [e 0 (by omega), e 1 (by omega), e (34 + h) (by omega), e (58 + h) (by omega)]
    by_cases q : h = h0
    · subst q
      rw [zup_s]
      have := hV.2.1 h hh
      exact ⟨hv, this.2⟩
    · rw [e (10 + h) (by omega)]
      exact hV.2.1 h hh
  · rw [e 114 (by omega)] at hc
    rw [e (82 + c * 4 + 0) (by omega), e (82 + c * 4 + 1) (by omega), e (82 + c * 4 + 2) (by omega), e (82 + c * 4 + 3) (by omega)]
    exact hV.2.2 c hc
theorem VL_inflow {Z : Nat → Int} (hV : VL Z) {h0 : Nat} (hh0 : h0 < 24) {v : Int} (hv : 0 ≤ v ∧ v ≤ 99) : VL (zup Z (34 + h0) v) := by
  have e : ∀ k : Nat, k ≠ 34 + h0 → zup Z (34 + h0) v k = Z k := fun k hk => zup_n hk
  refine ⟨by unfold VS; rw [e 0 (by omega), e 1 (by omega), e 2 (by omega), e 3 (by omega), e 4 (by omega), e 5 (by omega), e 6 (by omega), e 7 (by omega), e 8 (by omega), e 9 (by omega), e 114 (by omega)]; exact hV.1, fun h hh => ?_, fun c hc => ?_⟩
  · rw [e 0 (by omega), e 1 (by omega), e (10 + h) (by omega), e (58 + h) (by omega)]
    by_cases q : h = h0
    · subst q
      rw [zup_s]
      have := hV.2.1 h hh
      exact ⟨this.1, hv, this.2.2⟩
    · rw [e (34 + h) (by omega)]
      exact hV.2.1 h hh
  · rw [e 114 (by omega)] at hc
    rw [e (82 + c * 4 + 0) (by omega), e (82 + c * 4 + 1) (by omega), e (82 + c * 4 + 2) (by omega), e (82 + c * 4 + 3) (by omega)]
    exact hV.2.2 c hc
theorem VL_plan {Z : Nat → Int} (hV : VL Z) {h0 : Nat} (hh0 : h0 < 24) {v : Int} (hv : -(Z 0) ≤ v ∧ v ≤ Z 1) : VL (zup Z (58 + h0) v) := by
  have e : ∀ k : Nat, k ≠ 58 + h0 → zup Z (58 + h0) v k = Z k := fun k hk => zup_n hk
  refine ⟨by unfold VS; rw [e 0 (by omega), e 1 (by omega), e 2 (by omega), e 3 (by omega), e 4 (by omega), e 5 (by omega), e 6 (by omega), e 7 (by omega), e 8 (by omega), e 9 (by omega), e 114 (by omega)]; exact hV.1, fun h hh => ?_, fun c hc => ?_⟩
  · rw [e 0 (by omega), e 1 (by omega), e (10 + h) (by omega), e (34 + h) (by omega)]
    by_cases q : h = h0
    · subst q
      rw [zup_s]
      have := hV.2.1 h hh
      exact ⟨this.1, this.2.1, hv⟩
    · rw [e (58 + h) (by omega)]
      exact hV.2.1 h hh
  · rw [e 114 (by omega)] at hc
    rw [e (82 + c * 4 + 0) (by omega), e (82 + c * 4 + 1) (by omega), e (82 + c * 4 + 2) (by omega), e (82 + c * 4 + 3) (by omega)]
    exact hV.2.2 c hc
theorem VL_zPrice {Z : Nat → Int} (hV : VL Z) (a b : Int) : VL (lk_zAt 10 999 Z a b) := by
  unfold lk_zAt
  split
  · exact VL_price hV (by omega) (by omega)
  · exact hV
theorem VL_zInflow {Z : Nat → Int} (hV : VL Z) (a b : Int) : VL (lk_zAt 34 99 Z a b) := by
  unfold lk_zAt
  split
  · exact VL_inflow hV (by omega) (by omega)
  · exact hV
theorem VL_zPlan {Z : Nat → Int} (hV : VL Z) (a b : Int) : VL (lk_zPlan Z a b) := by
  unfold lk_zPlan
  split
  · exact VL_plan hV (by omega) (by omega)
  · exact hV
theorem VL_lay {Z : Nat → Int} (hV : VL Z) {n : Nat} (hn : Z 114 = (n : Int)) (hn8 : n < 8) {h u b f : Int} (ho : (0 ≤ h ∧ h < 24) ∧ (1 ≤ u ∧ u ≤ 30) ∧ (0 ≤ b ∧ b ≤ 9999) ∧ (0 ≤ f ∧ f ≤ 9999)) : VL (lk_lay Z n h u b f) := by
  have e : ∀ k : Nat, (k < 82 + n * 4 ∨ 82 + n * 4 + 3 < k) → k ≠ 114 → lk_lay Z n h u b f k = Z k := fun k hk h1 => by
    unfold lk_lay
    rw [zup_n h1, zup_n (by omega), zup_n (by omega), zup_n (by omega), zup_n (by omega)]
  have e5 : lk_lay Z n h u b f 114 = (n : Int) + 1 := zup_s _ _ _
  have e3 : lk_lay Z n h u b f (82 + n * 4 + 3) = f := by
    unfold lk_lay
    rw [zup_n (by omega), zup_s]
  have e2 : lk_lay Z n h u b f (82 + n * 4 + 2) = b := by
    unfold lk_lay
    rw [zup_n (by omega), zup_n (by omega), zup_s]
  have e1 : lk_lay Z n h u b f (82 + n * 4 + 1) = u := by
    unfold lk_lay
    rw [zup_n (by omega), zup_n (by omega), zup_n (by omega), zup_s]
  have e0 : lk_lay Z n h u b f (82 + n * 4 + 0) = h := by
    unfold lk_lay
    rw [zup_n (by omega), zup_n (by omega), zup_n (by omega), zup_n (by omega), zup_s]
  have hs := hV.1
  unfold VS at hs
  refine ⟨?_, fun k hk => ?_, fun c hc => ?_⟩
  · unfold VS
    rw [e 0 (by omega) (by omega), e 1 (by omega) (by omega), e 2 (by omega) (by omega), e 3 (by omega) (by omega), e 4 (by omega) (by omega), e 5 (by omega) (by omega), e 6 (by omega) (by omega), e 7 (by omega) (by omega), e 8 (by omega) (by omega), e 9 (by omega) (by omega), e5]
    omega
  · rw [e 0 (by omega) (by omega), e 1 (by omega) (by omega), e (10 + k) (by omega) (by omega), e (34 + k) (by omega) (by omega), e (58 + k) (by omega) (by omega)]
    exact hV.2.1 k hk
  · rw [e5] at hc
    by_cases q : c = n
    · subst q
      rw [e0, e1, e2, e3]
      exact ho
    · rw [e (82 + c * 4 + 0) (by omega) (by omega), e (82 + c * 4 + 1) (by omega) (by omega), e (82 + c * 4 + 2) (by omega) (by omega), e (82 + c * 4 + 3) (by omega) (by omega)]
      exact hV.2.2 c (by omega)
theorem VL_zCon {Z : Nat → Int} (hV : VL Z) (a b c d : Int) : VL (lk_zCon Z a b c d) := by
  unfold lk_zCon
  split
  · rename_i q
    have hs := hV.1
    unfold VS at hs
    exact VL_lay hV (by omega) (by omega) q.1
  · exact hV
theorem VL_zDrop {Z : Nat → Int} (hV : VL Z) (c : Int) : VL (lk_zDrop Z c) := by
  unfold lk_zDrop
  split
  · rename_i q
    have hs := hV.1
    unfold VS at hs
    have e : ∀ k : Nat, k < 82 + c.toNat * 4 → k ≠ 114 → zup (lk_up Z (82 + c.toNat * 4) 110) 114 (Z 114 - 1) k = Z k := fun k hk h1 => by
      rw [zup_n h1]
      exact if_neg (by omega)
    have e4 : ∀ k : Nat, 82 + c.toNat * 4 ≤ k → k < 110 → zup (lk_up Z (82 + c.toNat * 4) 110) 114 (Z 114 - 1) k = Z (k + 4) := fun k hk h1 => by
      rw [zup_n (by omega)]
      exact if_pos ⟨hk, h1⟩
    have e5 : zup (lk_up Z (82 + c.toNat * 4) 110) 114 (Z 114 - 1) 114 = Z 114 - 1 := zup_s _ _ _
    refine ⟨?_, fun k hk => ?_, fun i hi => ?_⟩
    · unfold VS
      rw [e 0 (by omega) (by omega), e 1 (by omega) (by omega), e 2 (by omega) (by omega), e 3 (by omega) (by omega), e 4 (by omega) (by omega), e 5 (by omega) (by omega), e 6 (by omega) (by omega), e 7 (by omega) (by omega), e 8 (by omega) (by omega), e 9 (by omega) (by omega), e5]
      omega
    · rw [e 0 (by omega) (by omega), e 1 (by omega) (by omega), e (10 + k) (by omega) (by omega), e (34 + k) (by omega) (by omega), e (58 + k) (by omega) (by omega)]
      exact hV.2.1 k hk
    · rw [e5] at hi
      by_cases w : i < c.toNat
      · rw [e (82 + i * 4 + 0) (by omega) (by omega), e (82 + i * 4 + 1) (by omega) (by omega), e (82 + i * 4 + 2) (by omega) (by omega), e (82 + i * 4 + 3) (by omega) (by omega)]
        exact hV.2.2 i (by omega)
      · have := hV.2.2 (i + 1) (by omega)
        rw [e4 (82 + i * 4 + 0) (by omega) (by omega), e4 (82 + i * 4 + 1) (by omega) (by omega), e4 (82 + i * 4 + 2) (by omega) (by omega), e4 (82 + i * 4 + 3) (by omega) (by omega), show 82 + i * 4 + 0 + 4 = 82 + (i + 1) * 4 + 0 by omega, show 82 + i * 4 + 1 + 4 = 82 + (i + 1) * 4 + 1 by omega, show 82 + i * 4 + 2 + 4 = 82 + (i + 1) * 4 + 2 by omega, show 82 + i * 4 + 3 + 4 = 82 + (i + 1) * 4 + 3 by omega]
        exact this
  · exact hV
theorem VL_zSet {Z : Nat → Int} (hV : VL Z) (st v : Int) : VL (lk_zSet Z st v) := by
  unfold lk_zSet
  split
  · rename_i q
    obtain ⟨⟨q1, q2⟩, q3⟩ := q
    rw [lk_fb_iff] at q3
    obtain ⟨f5, f6, f0, f1⟩ := q3
    have hs := hV.1
    unfold VS at hs
    obtain ⟨n, rfl⟩ := Int.eq_ofNat_of_zero_le q1.1
    rw [show ((n : Nat) : Int).toNat = n by omega] at q2 ⊢
    have e : ∀ k : Nat, k ≠ n → zup Z n v k = Z k := fun k hk => zup_n hk
    refine ⟨?_, fun k hk => ?_, fun c hc => ?_⟩
    · have hn : n = 0 ∨ n = 1 ∨ n = 2 ∨ n = 3 ∨ n = 4 ∨ n = 5 ∨ n = 6 ∨ n = 7 ∨ n = 8 ∨ n = 9 := by omega
      rcases hn with rfl | rfl | rfl | rfl | rfl | rfl | rfl | rfl | rfl | rfl <;> simp [mvF] at q2 f5 f6 <;> simp [VS, zup] <;> omega
    · rw [e (10 + k) (by omega), e (34 + k) (by omega), e (58 + k) (by omega)]
      have hk2 := hV.2.1 k hk
      by_cases n0 : n = 0
      · subst n0
        rw [zup_s, e 1 (by omega)]
        exact ⟨hk2.1, hk2.2.1, f0 rfl k hk⟩
      · rw [e 0 (by omega)]
        by_cases n1 : n = 1
        · subst n1
          rw [zup_s]
          exact ⟨hk2.1, hk2.2.1, f1 rfl k hk⟩
        · rw [e 1 (by omega)]
          exact hk2
    · rw [e 114 (by omega)] at hc
      rw [e (82 + c * 4 + 0) (by omega), e (82 + c * 4 + 1) (by omega), e (82 + c * 4 + 2) (by omega), e (82 + c * 4 + 3) (by omega)]
      exact hV.2.2 c hc
  · exact hV
