/-! one order: its kind kd (p 112, i 105, u else), its value v, in the hour h -/
def oh_r (kd v : Int) (Z : Nat → Int) (h : Int) : Int := if kd = 112 then lk_rAt 10 999 Z h v else if kd = 105 then lk_rAt 34 99 Z h v else lk_rPlan Z h v
def oh_z (kd v : Int) (Z : Nat → Int) (h : Int) : Nat → Int := if kd = 112 then lk_zAt 10 999 Z h v else if kd = 105 then lk_zAt 34 99 Z h v else lk_zPlan Z h v
def oh_v (kd v h ve : Int) : Int := if kd = 112 then lk_vAt 999 h v ve else if kd = 105 then lk_vAt 99 h v ve else ve
theorem VL_oh {Z : Nat → Int} (hV : VL Z) (kd v h : Int) : VL (oh_z kd v Z h) := by
  unfold oh_z
  split
  · exact VL_zPrice hV _ _
  · split
    · exact VL_zInflow hV _ _
    · exact VL_zPlan hV _ _
theorem oh_r_rng {Z : Nat → Int} (hV : VL Z) (kd v h : Int) : -2 ≤ oh_r kd v Z h ∧ oh_r kd v Z h ≤ 999 ∧ (0 ≤ oh_r kd v Z h → 0 ≤ h ∧ h < 24) := by
  have h1 := lk_rPrice_rng hV h v
  have h2 := lk_rInflow_rng hV h v
  have h3 := lk_rPlan_rng hV h v
  have e : ¬ (0 ≤ h ∧ h < 24) → oh_r kd v Z h = -1 := fun q => by
    unfold oh_r lk_rAt lk_rPlan
    rw [if_neg q, if_neg q, if_neg q]
    split
    · rfl
    · split <;> rfl
  have e2 : -2 ≤ oh_r kd v Z h ∧ oh_r kd v Z h ≤ 999 := by
    unfold oh_r
    split
    · exact h1
    · split <;> omega
  refine ⟨e2.1, e2.2, fun q => ?_⟩
  by_cases w : 0 ≤ h ∧ h < 24
  · exact w
  · have := e w
    omega
theorem oh_v_rng (kd v h ve : Int) : ve ≤ oh_v kd v h ve ∧ oh_v kd v h ve ≤ ve + 1 := by
  unfold oh_v lk_vAt
  split
  · split <;> omega
  · split
    · split <;> omega
    · omega
/-- a change that isn't counted touches the plans alone -/
theorem oh_same {kd v h ve : Int} {Z : Nat → Int} (q : oh_v kd v h ve = ve) : ∀ k : Nat, k < 58 ∨ 82 ≤ k → oh_z kd v Z h k = Z k := by
  intro k hk
  unfold oh_v at q
  unfold oh_z
  by_cases h1 : kd = 112
  · rw [if_pos h1] at q ⊢
    unfold lk_vAt at q
    unfold lk_zAt
    split at q
    · omega
    · rename_i w
      rw [if_neg w]
  · rw [if_neg h1] at q ⊢
    by_cases h2 : kd = 105
    · rw [if_pos h2] at q ⊢
      unfold lk_vAt at q
      unfold lk_zAt
      split at q
      · omega
      · rename_i w
        rw [if_neg w]
    · rw [if_neg h2]
      unfold lk_zPlan
      split
      · exact zup_n (by omega)
      · rfl
/-- the search: what it found holds for the version that it knows -/
def SI (Z : Nat → Int) (ve : Int) (M : Nat → Nat → Int) (P : Nat → Int) (fo sv : Int) : Prop := (-1 ≤ sv ∧ sv ≤ ve) ∧ (sv = ve → SOL Z M P fo)
theorem SI.step {Z Y : Nat → Int} {ve vf : Int} {M : Nat → Nat → Int} {P : Nat → Int} {fo sv : Int} (h : SI Z ve M P fo sv) (h1 : ve ≤ vf) (h2 : vf = ve → ∀ k : Nat, k < 58 ∨ 82 ≤ k → Y k = Z k) : SI Y vf M P fo sv := by
  obtain ⟨⟨a, b⟩, c⟩ := h
  refine ⟨⟨a, by omega⟩, fun q => ?_⟩
  have e : sv = ve := by omega
  exact ad_SOL (h2 (by omega)) (c e)
/-- the order over k hours from h on -/
def oo_r (kd v : Int) : Nat → Int → (Nat → Int) → Int → Int
  | 0, _, _, r => r
  | k + 1, h, Z, _ => if oh_r kd v Z h < 0 then oh_r kd v Z h else oo_r kd v k (h + 1) (oh_z kd v Z h) (oh_r kd v Z h)
def oo_z (kd v : Int) : Nat → Int → (Nat → Int) → Nat → Int
  | 0, _, Z => Z
  | k + 1, h, Z => if oh_r kd v Z h < 0 then oh_z kd v Z h else oo_z kd v k (h + 1) (oh_z kd v Z h)
def oo_v (kd v : Int) : Nat → Int → (Nat → Int) → Int → Int
  | 0, _, _, ve => ve
  | k + 1, h, Z, ve => if oh_r kd v Z h < 0 then oh_v kd v h ve else oo_v kd v k (h + 1) (oh_z kd v Z h) (oh_v kd v h ve)
theorem oo_stop {kd v : Int} {k : Nat} {h : Int} {Z : Nat → Int} {r ve : Int} (q : oh_r kd v Z h < 0) : oo_r kd v (k + 1) h Z r = oh_r kd v Z h ∧ oo_z kd v (k + 1) h Z = oh_z kd v Z h ∧ oo_v kd v (k + 1) h Z ve = oh_v kd v h ve := ⟨if_pos q, if_pos q, if_pos q⟩
theorem oo_go {kd v : Int} {k : Nat} {h : Int} {Z : Nat → Int} {r ve : Int} (q : ¬ oh_r kd v Z h < 0) : oo_r kd v (k + 1) h Z r = oo_r kd v k (h + 1) (oh_z kd v Z h) (oh_r kd v Z h) ∧ oo_z kd v (k + 1) h Z = oo_z kd v k (h + 1) (oh_z kd v Z h) ∧ oo_v kd v (k + 1) h Z ve = oo_v kd v k (h + 1) (oh_z kd v Z h) (oh_v kd v h ve) := ⟨if_neg q, if_neg q, if_neg q⟩
theorem VL_oo (kd v : Int) : ∀ (k : Nat) (h : Int) (Z : Nat → Int), VL Z → VL (oo_z kd v k h Z)
  | 0, _, _, hV => hV
  | k + 1, h, Z, hV => by
    by_cases q : oh_r kd v Z h < 0
    · rw [(oo_stop (r := 0) (ve := 0) q).2.1]
      exact VL_oh hV _ _ _
    · rw [(oo_go (r := 0) (ve := 0) q).2.1]
      exact VL_oo kd v k _ _ (VL_oh hV _ _ _)
theorem oo_v_rng (kd v : Int) : ∀ (k : Nat) (h : Int) (Z : Nat → Int) (ve : Int), ve ≤ oo_v kd v k h Z ve ∧ oo_v kd v k h Z ve ≤ ve + (k : Int)
  | 0, _, _, ve => ⟨Int.le_refl _, by show ve ≤ ve + ((0 : Nat) : Int); omega⟩
  | k + 1, h, Z, ve => by
    have h1 := oh_v_rng kd v h ve
    by_cases q : oh_r kd v Z h < 0
    · rw [(oo_stop (r := 0) (ve := ve) q).2.2]
      omega
    · rw [(oo_go (r := 0) (ve := ve) q).2.2]
      have := oo_v_rng kd v k (h + 1) (oh_z kd v Z h) (oh_v kd v h ve)
      omega
theorem oo_same (kd v : Int) : ∀ (k : Nat) (h : Int) (Z : Nat → Int) (ve : Int), oo_v kd v k h Z ve = ve → ∀ j : Nat, j < 58 ∨ 82 ≤ j → oo_z kd v k h Z j = Z j
  | 0, _, _, _, _ => fun _ _ => rfl
  | k + 1, h, Z, ve, e => by
    intro j hj
    have h1 := oh_v_rng kd v h ve
    by_cases q : oh_r kd v Z h < 0
    · rw [(oo_stop (r := 0) (ve := ve) q).2.2] at e
      rw [(oo_stop (r := 0) (ve := ve) q).2.1]
      exact oh_same e j hj
    · rw [(oo_go (r := 0) (ve := ve) q).2.2] at e
      rw [(oo_go (r := 0) (ve := ve) q).2.1]
      have h2 := oo_v_rng kd v k (h + 1) (oh_z kd v Z h) (oh_v kd v h ve)
      have e2 : oh_v kd v h ve = ve := by omega
      rw [oo_same kd v k (h + 1) (oh_z kd v Z h) (oh_v kd v h ve) (by omega) j hj]
      exact oh_same e2 j hj
theorem oo_r_rng (kd v : Int) : ∀ (k : Nat) (h : Int) (Z : Nat → Int) (r : Int), VL Z → (-2 ≤ r ∧ r ≤ 999) → -2 ≤ oo_r kd v k h Z r ∧ oo_r kd v k h Z r ≤ 999
  | 0, _, _, _, _, hr => hr
  | k + 1, h, Z, r, hV, hr => by
    have h1 := oh_r_rng hV kd v h
    by_cases q : oh_r kd v Z h < 0
    · rw [(oo_stop (r := r) (ve := 0) q).1]
      omega
    · rw [(oo_go (r := r) (ve := 0) q).1]
      exact oo_r_rng kd v k _ _ _ (VL_oh hV _ _ _) ⟨h1.1, h1.2.1⟩
