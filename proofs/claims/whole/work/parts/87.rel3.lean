/-! the states that are kept: the class's ring beside the reference's list; the slots -/
def HR (G : Nat → Nat → Int) (asd len : Int) (F : Nat → Int) : Prop := ∀ i : Nat, (i : Int) < len → ∃ Y : Nat → Int, (∀ q : Nat, q < 115 → F (115 * i + q) = mz Y q) ∧ EL (G ((asd - len + (i : Int)) % 7).toNat) Y ∧ VL (G ((asd - len + (i : Int)) % 7).toNat)
def SR (S : Nat → Nat → Int) (Fl S2 : Nat → Int) : Prop := ∀ a : Nat, a < 2 → (0 ≤ Fl a ∧ Fl a ≤ 1) ∧ (Fl a ≠ 0 → ∃ Y : Nat → Int, (∀ q : Nat, q < 115 → S2 (115 * a + q) = mz Y q) ∧ EL (S a) Y ∧ VL (S a))
theorem VL_115 {Y Z : Nat → Int} (h : ∀ k : Nat, k < 115 → Y k = Z k) (hV : VL Z) : VL Y := VL_el (el_of115 h hV) hV
theorem el_mix {Z W F : Nat → Int} (he : EL Z W) (hV : VL Z) : EL (zmix 115 Z F) W ∧ VL (zmix 115 Z F) := ⟨(el_of115 (fun k hk => zmix_in hk) hV).trans he, VL_115 (fun k hk => zmix_in hk) hV⟩
theorem HR.keep {G : Nat → Nat → Int} {asd len : Int} {F X : Nat → Int} (h : HR G asd len F) (ha : 0 ≤ asd ∧ asd < 7) (hl : 0 ≤ len ∧ len ≤ 6) : HR (gup G asd.toNat X) asd len F := fun i hi => by
  obtain ⟨Y, h1, h2, h3⟩ := h i hi
  have e : gup G asd.toNat X ((asd - len + (i : Int)) % 7).toNat = G ((asd - len + (i : Int)) % 7).toNat := gup_n (by omega)
  exact ⟨Y, h1, by rw [e]; exact h2, by rw [e]; exact h3⟩
theorem HR.rec {G : Nat → Nat → Int} {asd len : Int} {F X Z W : Nat → Int} (h : HR G asd len F) (ha : 0 ≤ asd ∧ asd < 7) (hl : 0 ≤ len ∧ len ≤ 6) (he : EL Z W) (hV : VL Z) : HR (gup G asd.toNat (zmix 115 Z X)) ((asd + 1) % 7) (min (len + 1) 6) (rc_F F len (mz W)) := fun i hi => by
  have hmix := el_mix (F := X) he hV
  by_cases hn : (i : Int) = min (len + 1) 6 - 1
  · have e : gup G asd.toNat (zmix 115 Z X) (((asd + 1) % 7 - min (len + 1) 6 + (i : Int)) % 7).toNat = zmix 115 Z X := by
      rw [show (((asd + 1) % 7 - min (len + 1) 6 + (i : Int)) % 7).toNat = asd.toNat by omega]
      exact gup_s _ _ _
    refine ⟨W, fun q hq => ?_, by rw [e]; exact hmix.1, by rw [e]; exact hmix.2⟩
    unfold rc_F
    rw [show 115 * i + q = 115 * rc_k len + q by unfold rc_k; split <;> omega]
    exact zlay_in hq
  · by_cases h6 : len = 6
    · obtain ⟨Y, h1, h2, h3⟩ := h (i + 1) (by omega)
      have e : gup G asd.toNat (zmix 115 Z X) (((asd + 1) % 7 - min (len + 1) 6 + (i : Int)) % 7).toNat = G ((asd - len + ((i + 1 : Nat) : Int)) % 7).toNat := by
        rw [show (((asd + 1) % 7 - min (len + 1) 6 + (i : Int)) % 7).toNat = ((asd - len + ((i + 1 : Nat) : Int)) % 7).toNat by omega]
        exact gup_n (by omega)
      refine ⟨Y, fun q hq => ?_, by rw [e]; exact h2, by rw [e]; exact h3⟩
      unfold rc_F rc_k
      rw [if_pos h6, if_pos h6, zlay_out (by omega)]
      unfold rcS
      rw [if_pos (by omega), show 115 * i + q + 115 = 115 * (i + 1) + q by omega]
      exact h1 q hq
    · obtain ⟨Y, h1, h2, h3⟩ := h i (by omega)
      have e : gup G asd.toNat (zmix 115 Z X) (((asd + 1) % 7 - min (len + 1) 6 + (i : Int)) % 7).toNat = G ((asd - len + (i : Int)) % 7).toNat := by
        rw [show (((asd + 1) % 7 - min (len + 1) 6 + (i : Int)) % 7).toNat = ((asd - len + (i : Int)) % 7).toNat by omega]
        exact gup_n (by omega)
      refine ⟨Y, fun q hq => ?_, by rw [e]; exact h2, by rw [e]; exact h3⟩
      unfold rc_F rc_k
      rw [if_neg h6, if_neg h6, zlay_out (by omega)]
      exact h1 q hq
theorem rc_n_min {len : Int} (hl : 0 ≤ len ∧ len ≤ 6) : rc_n len = min (len + 1) 6 := by
  unfold rc_n
  split <;> omega
theorem HR.undo {G : Nat → Nat → Int} {asd len : Int} {F : Nat → Int} (h : HR G asd len F) (ha : 0 ≤ asd ∧ asd < 7) (hl : 0 < len ∧ len ≤ 6) : (∃ Y : Nat → Int, (∀ q : Nat, q < 115 → F (115 * (len - 1).toNat + q) = mz Y q) ∧ EL (G ((asd + 6) % 7).toNat) Y ∧ VL (G ((asd + 6) % 7).toNat)) ∧ HR G ((asd + 6) % 7) (len - 1) F := by
  refine ⟨?_, fun i hi => ?_⟩
  · obtain ⟨Y, h1, h2, h3⟩ := h (len - 1).toNat (by omega)
    have e : ((asd - len + (((len - 1).toNat : Nat) : Int)) % 7).toNat = ((asd + 6) % 7).toNat := by omega
    rw [e] at h2 h3
    exact ⟨Y, h1, h2, h3⟩
  · obtain ⟨Y, h1, h2, h3⟩ := h i (by omega)
    have e : (((asd + 6) % 7 - (len - 1) + (i : Int)) % 7).toNat = ((asd - len + (i : Int)) % 7).toNat := by omega
    rw [e]
    exact ⟨Y, h1, h2, h3⟩
theorem SR.save {S : Nat → Nat → Int} {Fl S2 X Z W : Nat → Int} (h : SR S Fl S2) {a : Nat} (ha : a < 2) (he : EL Z W) (hV : VL Z) : SR (gup S a (zmix 115 Z X)) (zup Fl a 1) (zlay (115 * a) 115 (mz W) S2) := fun b hb => by
  have hmix := el_mix (F := X) he hV
  by_cases e : b = a
  · subst e
    rw [zup_s]
    refine ⟨by omega, fun _ => ⟨W, fun q hq => zlay_in hq, by rw [gup_s]; exact hmix.1, by rw [gup_s]; exact hmix.2⟩⟩
  · rw [zup_n e]
    refine ⟨(h b hb).1, fun q => ?_⟩
    obtain ⟨Y, h1, h2, h3⟩ := (h b hb).2 q
    exact ⟨Y, fun q hq => by rw [zlay_out (by omega)]; exact h1 q hq, by rw [gup_n e]; exact h2, by rw [gup_n e]; exact h3⟩
theorem SR_0 (S : Nat → Nat → Int) (S2 : Nat → Int) : SR S (fun _ => 0) S2 := fun a _ => ⟨⟨Int.le_refl _, by show (0 : Int) ≤ 1; omega⟩, fun q => absurd rfl q⟩
theorem HR_0 (G : Nat → Nat → Int) (F : Nat → Int) : HR G 0 0 F := fun i hi => absurd hi (by omega)
