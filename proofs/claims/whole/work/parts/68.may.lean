/-! whether something of an hour may be so -/
def my_ok (Z : Nat → Int) (w v : Int) : Prop := (w = 1 → 0 ≤ v ∧ v ≤ 999) ∧ (w = 2 → 0 ≤ v ∧ v ≤ 99) ∧ (w ≠ 1 → w ≠ 2 → -(Z 0) ≤ v ∧ v ≤ Z 1)
def my_r (Z : Nat → Int) (w h v : Int) : Int := if 0 ≤ h ∧ h < 24 then (if (w = 1 ∧ 0 ≤ v ∧ v ≤ 999) ∨ (w = 2 ∧ 0 ≤ v ∧ v ≤ 99) ∨ ((w ≠ 1 ∧ w ≠ 2) ∧ -(Z 0) ≤ v ∧ v ≤ Z 1) then 0 else -2) else -1
def my_p (w : Int) : Nat := if w = 1 then 10 else if w = 2 then 34 else 58
def my_z (Z : Nat → Int) (w h v : Int) : Nat → Int := if my_r Z w h v = 0 then zup Z (my_p w + h.toNat) v else Z
theorem my_r_rng (Z : Nat → Int) (w h v : Int) : my_r Z w h v = 0 ∨ my_r Z w h v = -1 ∨ my_r Z w h v = -2 := by
  unfold my_r
  repeat' split
  all_goals omega
theorem my_p_rng (w : Int) : my_p w = 10 ∨ my_p w = 34 ∨ my_p w = 58 := by
  unfold my_p
  repeat' split
  all_goals omega
theorem my_price (Z : Nat → Int) (h v : Int) : lk_rAt 10 999 Z h v = (if my_r Z 1 h v = 0 then Z (10 + h.toNat) else my_r Z 1 h v) ∧ lk_zAt 10 999 Z h v = my_z Z 1 h v := by
  unfold lk_rAt lk_zAt my_z
  by_cases a : 0 ≤ h ∧ h < 24
  · by_cases b : 0 ≤ v ∧ v ≤ 999
    · have e : my_r Z 1 h v = 0 := by unfold my_r; rw [if_pos a, if_pos (by omega)]
      rw [if_pos a, if_pos b, if_pos e, if_pos ⟨a, b⟩, if_pos e]
      exact ⟨rfl, rfl⟩
    · have e : my_r Z 1 h v = -2 := by unfold my_r; rw [if_pos a, if_neg (by omega)]
      rw [if_pos a, if_neg b, if_neg (by omega), if_neg (by omega), if_neg (by omega), e]
      exact ⟨rfl, rfl⟩
  · have e : my_r Z 1 h v = -1 := by unfold my_r; rw [if_neg a]
    rw [if_neg a, if_neg (by omega), if_neg (by omega), if_neg (by omega), e]
    exact ⟨rfl, rfl⟩
theorem my_inflow (Z : Nat → Int) (h v : Int) : lk_rAt 34 99 Z h v = (if my_r Z 2 h v = 0 then Z (34 + h.toNat) else my_r Z 2 h v) ∧ lk_zAt 34 99 Z h v = my_z Z 2 h v := by
  unfold lk_rAt lk_zAt my_z
  by_cases a : 0 ≤ h ∧ h < 24
  · by_cases b : 0 ≤ v ∧ v ≤ 99
    · have e : my_r Z 2 h v = 0 := by unfold my_r; rw [if_pos a, if_pos (by omega)]
      rw [if_pos a, if_pos b, if_pos e, if_pos ⟨a, b⟩, if_pos e]
      exact ⟨rfl, rfl⟩
    · have e : my_r Z 2 h v = -2 := by unfold my_r; rw [if_pos a, if_neg (by omega)]
      rw [if_pos a, if_neg b, if_neg (by omega), if_neg (by omega), if_neg (by omega), e]
      exact ⟨rfl, rfl⟩
  · have e : my_r Z 2 h v = -1 := by unfold my_r; rw [if_neg a]
    rw [if_neg a, if_neg (by omega), if_neg (by omega), if_neg (by omega), e]
    exact ⟨rfl, rfl⟩
theorem my_plan (Z : Nat → Int) {w : Int} (hw : w ≠ 1 ∧ w ≠ 2) (h v : Int) : lk_rPlan Z h v = (if my_r Z w h v = 0 then Z (58 + h.toNat) + 100 else my_r Z w h v) ∧ lk_zPlan Z h v = my_z Z w h v := by
  have ep : my_p w = 58 := by unfold my_p; rw [if_neg hw.1, if_neg hw.2]
  unfold lk_rPlan lk_zPlan my_z
  rw [ep]
  by_cases a : 0 ≤ h ∧ h < 24
  · by_cases b : -(Z 0) ≤ v ∧ v ≤ Z 1
    · have e : my_r Z w h v = 0 := by unfold my_r; rw [if_pos a, if_pos (by omega)]
      rw [if_pos a, if_pos b, if_pos e, if_pos ⟨a, b⟩, if_pos e]
      exact ⟨rfl, rfl⟩
    · have e : my_r Z w h v = -2 := by unfold my_r; rw [if_pos a, if_neg (by omega)]
      rw [if_pos a, if_neg b, if_neg (by omega), if_neg (by omega), if_neg (by omega), e]
      exact ⟨rfl, rfl⟩
  · have e : my_r Z w h v = -1 := by unfold my_r; rw [if_neg a]
    rw [if_neg a, if_neg (by omega), if_neg (by omega), if_neg (by omega), e]
    exact ⟨rfl, rfl⟩
/-- a contract that may come -/
def mc_r (Z : Nat → Int) (h uu b f : Int) : Int := if 0 ≤ h ∧ h < 24 then (if (1 ≤ uu ∧ uu ≤ 30) ∧ (0 ≤ b ∧ b ≤ 9999) ∧ (0 ≤ f ∧ f ≤ 9999) then (if Z 114 < 8 then 0 else -4) else -2) else -1
theorem mc_r_rng (Z : Nat → Int) (h uu b f : Int) : mc_r Z h uu b f = 0 ∨ mc_r Z h uu b f = -4 ∨ mc_r Z h uu b f = -2 ∨ mc_r Z h uu b f = -1 := by
  unfold mc_r
  repeat' split
  all_goals omega
theorem mc_con (Z : Nat → Int) (h uu b f : Int) : lk_rCon Z h uu b f = (if mc_r Z h uu b f = 0 then Z 114 else mc_r Z h uu b f) ∧ lk_zCon Z h uu b f = if mc_r Z h uu b f = 0 then lk_lay Z (Z 114).toNat h uu b f else Z := by
  unfold lk_rCon lk_zCon
  by_cases a : 0 ≤ h ∧ h < 24
  · by_cases c : (1 ≤ uu ∧ uu ≤ 30) ∧ (0 ≤ b ∧ b ≤ 9999) ∧ (0 ≤ f ∧ f ≤ 9999)
    · by_cases d : Z 114 < 8
      · have e : mc_r Z h uu b f = 0 := by unfold mc_r; rw [if_pos a, if_pos c, if_pos d]
        rw [if_pos a, if_pos c, if_pos d, if_pos e, if_pos ⟨⟨a, c⟩, d⟩, if_pos e]
        exact ⟨rfl, rfl⟩
      · have e : mc_r Z h uu b f = -4 := by unfold mc_r; rw [if_pos a, if_pos c, if_neg d]
        rw [if_pos a, if_pos c, if_neg d, if_neg (by omega), if_neg (by omega), if_neg (by omega), e]
        exact ⟨rfl, rfl⟩
    · have e : mc_r Z h uu b f = -2 := by unfold mc_r; rw [if_pos a, if_neg c]
      rw [if_pos a, if_neg c, if_neg (by omega), if_neg (fun q => c q.1.2), if_neg (by omega), e]
      exact ⟨rfl, rfl⟩
  · have e : mc_r Z h uu b f = -1 := by unfold mc_r; rw [if_neg a]
    rw [if_neg a, if_neg (by omega), if_neg (fun q => a q.1.1), if_neg (by omega), e]
    exact ⟨rfl, rfl⟩
