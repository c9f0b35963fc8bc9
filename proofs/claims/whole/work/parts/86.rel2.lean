/-! changes keep alike what was alike -/
section ELc
variable {Y Z : Nat → Int}
theorem EL.symm (he : EL Y Z) : EL Z Y := ⟨fun k hk => (he.1 k hk).symm, he.2.1.symm, fun c w hc hw => (he.2.2 c w (by rw [← he.2.1]; exact hc) hw).symm⟩
theorem EL.trans {X : Nat → Int} (h1 : EL X Y) (h2 : EL Y Z) : EL X Z := ⟨fun k hk => (h1.1 k hk).trans (h2.1 k hk), h1.2.1.trans h2.2.1, fun c w hc hw => (h1.2.2 c w (by rw [h2.2.1]; exact hc) hw).trans (h2.2.2 c w hc hw)⟩
theorem VL_el (he : EL Y Z) (hV : VL Z) : VL Y := by
  obtain ⟨h1, h2, h3⟩ := hV
  refine ⟨?_, fun h hh => ?_, fun c hc => ?_⟩
  · unfold VS at h1 ⊢
    rw [he.1 0 (by omega), he.1 1 (by omega), he.1 2 (by omega), he.1 3 (by omega), he.1 4 (by omega), he.1 5 (by omega), he.1 6 (by omega), he.1 7 (by omega), he.1 8 (by omega), he.1 9 (by omega), he.2.1]
    exact h1
  · rw [he.1 (10 + h) (by omega), he.1 (34 + h) (by omega), he.1 (58 + h) (by omega), he.1 0 (by omega), he.1 1 (by omega)]
    exact h2 h hh
  · rw [he.2.1] at hc
    rw [he.2.2 c 0 hc (by omega), he.2.2 c 1 hc (by omega), he.2.2 c 2 hc (by omega), he.2.2 c 3 hc (by omega)]
    exact h3 c hc
theorem el_of115 (h : ∀ k : Nat, k < 115 → Y k = Z k) (hV : VL Z) : EL Y Z := by
  have hs := hV.1
  unfold VS at hs
  exact ⟨fun k hk => h k (by omega), h 114 (by omega), fun c w hc hw => h _ (by omega)⟩
theorem zup_cg {j k : Nat} {v : Int} (h : k ≠ j → Y k = Z k) : zup Y j v k = zup Z j v k := by
  unfold zup
  split
  · rfl
  · rename_i q
    exact h q
theorem el_up (he : EL Y Z) {j : Nat} (hj : j < 82) (v : Int) : EL (zup Y j v) (zup Z j v) := ⟨fun k hk => zup_cg (fun _ => he.1 k hk), zup_cg (fun _ => he.2.1), fun c w hc hw => zup_cg (fun _ => he.2.2 c w (by rw [zup_n (by omega)] at hc; exact hc) hw)⟩
theorem el_zAt (he : EL Y Z) {off : Nat} (ho : off + 24 ≤ 82) (mx a b : Int) : EL (lk_zAt off mx Y a b) (lk_zAt off mx Z a b) := by
  unfold lk_zAt
  split
  · exact el_up he (by omega) b
  · exact he
theorem el_rAt (he : EL Y Z) {off : Nat} (ho : off + 24 ≤ 82) (mx a b : Int) : lk_rAt off mx Y a b = lk_rAt off mx Z a b := by
  unfold lk_rAt
  split
  · rw [he.1 (off + a.toNat) (by omega)]
  · rfl
theorem el_zPlan (he : EL Y Z) (a b : Int) : EL (lk_zPlan Y a b) (lk_zPlan Z a b) := by
  unfold lk_zPlan
  rw [he.1 0 (by omega), he.1 1 (by omega)]
  split
  · exact el_up he (by omega) b
  · exact he
theorem el_rPlan (he : EL Y Z) (a b : Int) : lk_rPlan Y a b = lk_rPlan Z a b := by
  unfold lk_rPlan
  rw [he.1 0 (by omega), he.1 1 (by omega)]
  split
  · rw [he.1 (58 + a.toNat) (by omega)]
  · rfl
theorem el_rCon (he : EL Y Z) (a b c d : Int) : lk_rCon Y a b c d = lk_rCon Z a b c d := by
  unfold lk_rCon
  rw [he.2.1]
theorem el_lay (he : EL Y Z) {n : Nat} (hn : Z 114 = (n : Int)) (h8 : n < 8) (a b c d : Int) : EL (lk_lay Y n a b c d) (lk_lay Z n a b c d) := by
  unfold lk_lay
  have e : ∀ k : Nat, (k ≠ 114 → k ≠ 82 + n * 4 + 3 → k ≠ 82 + n * 4 + 2 → k ≠ 82 + n * 4 + 1 → k ≠ 82 + n * 4 + 0 → Y k = Z k) → zup (zup (zup (zup (zup Y (82 + n * 4 + 0) a) (82 + n * 4 + 1) b) (82 + n * 4 + 2) c) (82 + n * 4 + 3) d) 114 ((n : Int) + 1) k = zup (zup (zup (zup (zup Z (82 + n * 4 + 0) a) (82 + n * 4 + 1) b) (82 + n * 4 + 2) c) (82 + n * 4 + 3) d) 114 ((n : Int) + 1) k := fun k h => zup_cg (fun h1 => zup_cg (fun h2 => zup_cg (fun h3 => zup_cg (fun h4 => zup_cg (fun h5 => h h1 h2 h3 h4 h5)))))
  refine ⟨fun k hk => e k (fun _ _ _ _ _ => he.1 k hk), e 114 (fun h => absurd rfl h), fun q w hq hw => e _ (fun _ h2 h3 h4 h5 => ?_)⟩
  rw [zup_s] at hq
  exact he.2.2 q w (by omega) hw
theorem el_zCon (he : EL Y Z) (hV : VL Z) (a b c d : Int) : EL (lk_zCon Y a b c d) (lk_zCon Z a b c d) := by
  have hs := hV.1
  unfold VS at hs
  unfold lk_zCon
  rw [he.2.1]
  split
  · exact el_lay he (by omega) (by omega) a b c d
  · exact he
theorem el_rDrop (he : EL Y Z) (a : Int) : lk_rDrop Y a = lk_rDrop Z a := by
  unfold lk_rDrop
  rw [he.2.1]
theorem el_zDrop (he : EL Y Z) (hV : VL Z) (a : Int) : EL (lk_zDrop Y a) (rd_z Z a) := by
  have hs := hV.1
  unfold VS at hs
  unfold lk_zDrop rd_z
  rw [he.2.1]
  by_cases q : 0 ≤ a ∧ a < Z 114
  · rw [if_pos q, if_pos q]
    refine ⟨fun k hk => zup_cg (fun _ => ?_), by rw [zup_s, zup_s], fun c w hc hw => zup_cg (fun _ => ?_)⟩
    · unfold lk_up
      rw [if_neg (by omega), if_neg (by omega)]
      exact he.1 k hk
    · rw [zup_s] at hc
      unfold lk_up
      by_cases r : 82 + a.toNat * 4 ≤ 82 + c * 4 + w
      · rw [if_pos (by omega), if_pos (by omega), show 82 + c * 4 + w + 4 = 82 + (c + 1) * 4 + w by omega]
        exact he.2.2 (c + 1) w (by omega) hw
      · rw [if_neg (by omega), if_neg (by omega)]
        exact he.2.2 c w (by omega) hw
  · rw [if_neg q, if_neg q]
    exact he
theorem el_fb (he : EL Y Z) (st v : Int) : lk_fb Y st v = lk_fb Z st v := by
  have key : ∀ {A B : Nat → Int}, EL A B → lk_fits A st v → lk_fits B st v := fun hab q => by
    obtain ⟨q1, q2, q3, q4⟩ := q
    refine ⟨fun w => by rw [← hab.1 6 (by omega)]; exact q1 w, fun w => by rw [← hab.1 5 (by omega)]; exact q2 w, fun w h hh => ?_, fun w h hh => ?_⟩
    · rw [← hab.1 (58 + h) (by omega), ← hab.1 1 (by omega)]
      exact q3 w h hh
    · rw [← hab.1 (58 + h) (by omega), ← hab.1 0 (by omega)]
      exact q4 w h hh
  rw [Bool.eq_iff_iff, lk_fb_iff, lk_fb_iff]
  exact ⟨key he, key he.symm⟩
theorem el_rSet (he : EL Y Z) (a b : Int) : lk_rSet Y a b = lk_rSet Z a b := by
  unfold lk_rSet
  rw [el_fb he]
  split
  · rw [he.1 a.toNat (by omega)]
  · rfl
theorem el_zSet (he : EL Y Z) (a b : Int) : EL (lk_zSet Y a b) (lk_zSet Z a b) := by
  unfold lk_zSet
  rw [el_fb he]
  split
  · exact el_up he (by omega) b
  · exact he
theorem el_ad (he : EL Y Z) (hV : VL Z) {n : Nat} (hn : n ≤ 24) : EL (pl_ad Y n) (pl_ad Z n) := by
  have hs := hV.1
  unfold VS at hs
  refine ⟨fun k hk => ?_, ?_, fun c w hc hw => ?_⟩
  · unfold pl_ad
    split
    · exact el_bp he hV NOP (by omega)
    · exact he.1 k hk
  · rw [pl_ad_out (by omega), pl_ad_out (by omega)]
    exact he.2.1
  · rw [pl_ad_out (by omega)] at hc
    rw [pl_ad_out (by omega), pl_ad_out (by omega)]
    exact he.2.2 c w hc hw
theorem el_adc (he : EL Y Z) (hV : VL Z) : ∀ n : Nat, n ≤ 24 → ad_c Y n = ad_c Z n
  | 0, _ => rfl
  | n + 1, hn => by
    have ih := el_adc he hV n (by omega)
    unfold ad_c
    rw [ih, he.1 (58 + n) (by omega), el_bp he hV NOP (by omega)]
theorem el_oh (he : EL Y Z) (kd v h : Int) : oh_r kd v Y h = oh_r kd v Z h ∧ EL (oh_z kd v Y h) (oh_z kd v Z h) := by
  unfold oh_r oh_z
  by_cases a : kd = 112
  · rw [if_pos a, if_pos a, if_pos a, if_pos a]
    exact ⟨el_rAt he (by omega) _ _ _, el_zAt he (by omega) _ _ _⟩
  · rw [if_neg a, if_neg a, if_neg a, if_neg a]
    by_cases b : kd = 105
    · rw [if_pos b, if_pos b, if_pos b, if_pos b]
      exact ⟨el_rAt he (by omega) _ _ _, el_zAt he (by omega) _ _ _⟩
    · rw [if_neg b, if_neg b, if_neg b, if_neg b]
      exact ⟨el_rPlan he _ _, el_zPlan he _ _⟩
end ELc
theorem el_oo (kd v : Int) : ∀ (k : Nat) (h : Int) (Y Z : Nat → Int) (r : Int), EL Y Z → oo_r kd v k h Y r = oo_r kd v k h Z r ∧ EL (oo_z kd v k h Y) (oo_z kd v k h Z)
  | 0, _, _, _, _, he => ⟨rfl, he⟩
  | k + 1, h, Y, Z, r, he => by
    have h1 := el_oh he kd v h
    by_cases q : oh_r kd v Z h < 0
    · rw [(oo_stop (r := r) (ve := 0) (Z := Z) q).1, (oo_stop (r := r) (ve := 0) (Z := Z) q).2.1, (oo_stop (r := r) (ve := 0) (Z := Y) (h1.1 ▸ q)).1, (oo_stop (r := r) (ve := 0) (Z := Y) (h1.1 ▸ q)).2.1]
      exact h1
    · have q' : ¬ oh_r kd v Y h < 0 := h1.1 ▸ q
      rw [(oo_go (r := r) (ve := 0) (Z := Z) q).1, (oo_go (r := r) (ve := 0) (Z := Z) q).2.1, (oo_go (r := r) (ve := 0) (Z := Y) q').1, (oo_go (r := r) (ve := 0) (Z := Y) q').2.1, h1.1]
      exact el_oo kd v k (h + 1) _ _ _ h1.2
theorem el_or {Y Z : Nat → Int} (he : EL Y Z) (hV : VL Z) (q3 q4 q5 q6 q7 q8 q9 : Int) : or_r Y q3 q4 q5 q6 q7 q8 q9 = or_r Z q3 q4 q5 q6 q7 q8 q9 ∧ EL (or_z Y q3 q4 q5 q6 q7 q8 q9) (or_z Z q3 q4 q5 q6 q7 q8 q9) := by
  unfold or_r or_z
  rw [he.1 7 (by omega), el_bv he hV NOP 24 (by omega)]
  by_cases a : q3 = 97
  · rw [if_pos a, if_pos a, if_pos a, if_pos a]
    by_cases b : bv NOP Z 24 (Z 7) = NOP
    · rw [if_pos b, if_pos b, if_pos b, if_pos b]
      exact ⟨rfl, he⟩
    · rw [if_neg b, if_neg b, if_neg b, if_neg b]
      exact ⟨el_adc he hV 24 (by omega), el_ad he hV (by omega)⟩
  · rw [if_neg a, if_neg a, if_neg a, if_neg a]
    by_cases b : q3 = 99
    · rw [if_pos b, if_pos b, if_pos b, if_pos b]
      exact ⟨el_rCon he _ _ _ _, el_zCon he hV _ _ _ _⟩
    · rw [if_neg b, if_neg b, if_neg b, if_neg b]
      by_cases c : q5 < q4
      · rw [if_pos c, if_pos c, if_pos c, if_pos c]
        exact ⟨rfl, he⟩
      · rw [if_neg c, if_neg c, if_neg c, if_neg c]
        exact el_oo _ _ _ _ _ _ _ he
theorem el_ct {P : Nat → Int} {n : Nat} : ∀ (f k i : Nat) (Y Z : Nat → Int) (v w : Int), EL Y Z → VL Z → (ct_go P n f k i Y v).1 = (ct_go P n f k i Z w).1 ∧ EL (ct_go P n f k i Y v).2.1 (ct_go P n f k i Z w).2.1
  | 0, _, _, _, _, _, _, he, _ => ⟨rfl, he⟩
  | f + 1, k, i, Y, Z, v, w, he, hV => by
    have h1 : ot_r P n i Y = ot_r P n i Z ∧ EL (ot_z P n i Y) (ot_z P n i Z) := el_or he hV _ _ _ _ _ _ _
    unfold ct_go
    by_cases a : po_ok P n i = 0
    · rw [if_pos a, if_pos a]
      exact ⟨rfl, he⟩
    · rw [if_neg a, if_neg a, h1.1]
      by_cases b : ot_r P n i Z < 0
      · rw [if_pos b, if_pos b]
        exact ⟨rfl, h1.2⟩
      · rw [if_neg b, if_neg b]
        exact el_ct f (k + 1) _ _ _ _ _ h1.2 (VL_or hV _ _ _ _ _ _ _)
theorem el_car {Y Z : Nat → Int} {P : Nat → Int} {n : Nat} (he : EL Y Z) (hV : VL Z) (v w : Int) : ca_r P n Y v = ca_r P n Z w ∧ EL (ca_z P n Y v) (ca_z P n Z w) := by
  have h := el_ct (P := P) (n := n) 80 0 0 Y Z v w he hV
  unfold ca_r ca_z ca_n
  by_cases a : pd_fault P n = -6
  · rw [if_pos a, if_pos a, if_pos a, if_pos a, h.1]
    exact ⟨rfl, h.2⟩
  · rw [if_neg a, if_neg a, if_neg a, if_neg a]
    exact ⟨rfl, he⟩
