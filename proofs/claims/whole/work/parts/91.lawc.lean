/-! when a change is recorded: both say so alike -/
theorem lc_inflow {Z W : Nat → Int} (he : EL Z W) (hV : VL Z) (a b : Int) : my_r W 2 a b = 0 ↔ ¬ lk_rAt 34 99 Z a b < 0 := by
  have h := my_inflow W a b
  rw [el_rAt he (by omega), h.1]
  have hm := my_r_rng W 2 a b
  have hV2 := VL_el he.symm hV
  split
  · rename_i q
    have hin : 0 ≤ a ∧ a < 24 := by
      unfold my_r at q
      split at q
      · assumption
      · omega
    have := (hV2.2.1 a.toNat (by omega)).2.1
    omega
  · omega
theorem lc_plan {Z W : Nat → Int} (he : EL Z W) (hV : VL Z) (a b : Int) : my_r W 3 a b = 0 ↔ ¬ lk_rPlan Z a b < 0 := by
  have h := my_plan W (w := 3) (by omega) a b
  rw [el_rPlan he, h.1]
  have hm := my_r_rng W 3 a b
  have hV2 := VL_el he.symm hV
  have hs := hV2.1
  unfold VS at hs
  split
  · rename_i q
    have hin : 0 ≤ a ∧ a < 24 := by
      unfold my_r at q
      split at q
      · assumption
      · omega
    have := (hV2.2.1 a.toNat (by omega)).2.2
    omega
  · omega
theorem lc_con {Z W : Nat → Int} (he : EL Z W) (hV : VL Z) (a b c d : Int) : mc_r W a b c d = 0 ↔ ¬ lk_rCon Z a b c d < 0 := by
  have h := mc_con W a b c d
  rw [el_rCon he, h.1]
  have hm := mc_r_rng W a b c d
  have hV2 := VL_el he.symm hV
  have hs := hV2.1
  unfold VS at hs
  split <;> omega
theorem lc_drop {Z W : Nat → Int} (he : EL Z W) (a : Int) : (0 ≤ a ∧ a < W 114) ↔ ¬ lk_rDrop Z a < 0 := by
  rw [el_rDrop he]
  unfold lk_rDrop
  split <;> omega
theorem lc_set {Z W : Nat → Int} (he : EL Z W) (hV : VL Z) (a b : Int) : (((0 ≤ a ∧ a < 10) ∧ 0 ≤ b ∧ b ≤ mvF a.toNat) ∧ lk_fb W a b = true) ↔ ¬ lk_rSet Z a b < 0 := by
  have hV2 := VL_el he.symm hV
  have hs := hV2.1
  unfold VS at hs
  rw [el_rSet he]
  unfold lk_rSet
  by_cases q : (0 ≤ a ∧ a < 10) ∧ 0 ≤ b ∧ b ≤ mvF a.toNat
  · rw [if_pos q]
    by_cases w : lk_fb W a b = true
    · rw [if_pos w]
      refine ⟨fun _ => ?_, fun _ => ⟨q, w⟩⟩
      have e : a.toNat = 0 ∨ a.toNat = 1 ∨ a.toNat = 2 ∨ a.toNat = 3 ∨ a.toNat = 4 ∨ a.toNat = 5 ∨ a.toNat = 6 ∨ a.toNat = 7 ∨ a.toNat = 8 ∨ a.toNat = 9 := by omega
      rcases e with e | e | e | e | e | e | e | e | e | e <;> rw [e] <;> omega
    · rw [if_neg w]
      exact ⟨fun h => absurd h.2 w, fun h => absurd (by omega) h⟩
  · rw [if_neg q]
    exact ⟨fun h => absurd h.1 q, fun h => absurd (by omega) h⟩
theorem lk_zPlan_same {Z : Nat → Int} {a b : Int} : ∀ k : Nat, k < 58 ∨ 82 ≤ k → lk_zPlan Z a b k = Z k := by
  intro k hk
  unfold lk_zPlan
  split
  · exact zup_n (by omega)
  · rfl
theorem lk_vDrop_rng (Z : Nat → Int) (a ve : Int) : ve ≤ lk_vDrop Z a ve ∧ lk_vDrop Z a ve ≤ ve + 1 := by
  unfold lk_vDrop
  split <;> omega
theorem lk_zDrop_same {Z : Nat → Int} {a ve : Int} (h : lk_vDrop Z a ve = ve) : lk_zDrop Z a = Z := by
  unfold lk_vDrop at h
  unfold lk_zDrop
  split at h
  · omega
  · rename_i q
    rw [if_neg q]
theorem lk_vSet_rng (Z : Nat → Int) (a b ve : Int) : ve ≤ lk_vSet Z a b ve ∧ lk_vSet Z a b ve ≤ ve + 1 := by
  unfold lk_vSet
  split <;> omega
theorem lk_zSet_same {Z : Nat → Int} {a b ve : Int} (h : lk_vSet Z a b ve = ve) : lk_zSet Z a b = Z := by
  unfold lk_vSet at h
  unfold lk_zSet
  split at h
  · omega
  · rename_i q
    rw [if_neg q]
/-- the last state comes back -/
theorem lr_undo {G : Nat → Nat → Int} {asd len : Int} {Fp Z Wz : Nat → Int} (h : HR G asd len Fp) (ha : 0 ≤ asd ∧ asd < 7) (hl : 0 ≤ len ∧ len ≤ 6) (he : EL Z Wz) (hV : VL Z) : ∃ Y : Nat → Int, (0 < len → ∀ q : Nat, q < 115 → Fp (115 * (len - 1).toNat + q) = mz Y q) ∧ VL (if len = 0 then Z else zmix 115 (G ((asd + 6) % 7).toNat) Z) ∧ EL (if len = 0 then Z else zmix 115 (G ((asd + 6) % 7).toNat) Z) (if len = 0 then Wz else Y) ∧ (0 ≤ (if len = 0 then asd else (asd + 6) % 7) ∧ (if len = 0 then asd else (asd + 6) % 7) < 7) ∧ (0 ≤ (if len = 0 then len else len - 1) ∧ (if len = 0 then len else len - 1) ≤ 6) ∧ HR G (if len = 0 then asd else (asd + 6) % 7) (if len = 0 then len else len - 1) Fp := by
  by_cases w : len = 0
  · refine ⟨Wz, fun q => by omega, ?_⟩
    rw [if_pos w, if_pos w, if_pos w, if_pos w]
    exact ⟨hV, he, ha, hl, h⟩
  · obtain ⟨⟨Y, h1, h2, h3⟩, h4⟩ := h.undo ha (by omega)
    refine ⟨Y, fun _ => h1, ?_⟩
    rw [if_neg w, if_neg w, if_neg w, if_neg w]
    have hm := el_mix (F := Z) h2 h3
    exact ⟨hm.2, hm.1, by omega, by omega, h4⟩
