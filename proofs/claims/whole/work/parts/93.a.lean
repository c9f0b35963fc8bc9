/-! what cases 16, 19 and 22 rest on -/
theorem wsL_r1 {w : Cond} {i : Nat} (h : wsL_law_r1[i]? = some w) : w ∈ wsL_law := List.mem_append_left _ (List.mem_append_left _ (List.mem_append_left _ (List.mem_append_left _ (List.mem_append_left _ (List.mem_append_left _ (List.mem_append_left _ (List.mem_append_left _ (List.mem_append_left _ (List.mem_append_left _ (List.mem_of_getElem? h))))))))))
theorem ap_byte : ∀ k v i : Nat, ap_G k v = true → i < ap_N k v → 33 ≤ v / 256 ^ i % 256 ∧ v / 256 ^ i % 256 ≤ 126
  | 0, _, i, _, hi => absurd hi (Nat.not_lt_zero i)
  | k + 1, v, i, hg, hi => by
    by_cases h : v % 256 = 0
    · rw [ap_Nz h] at hi
      exact absurd hi (Nat.not_lt_zero i)
    · by_cases h2 : 33 ≤ v % 256 ∧ v % 256 ≤ 126
      · cases i with
        | zero =>
          rw [Nat.pow_zero, Nat.div_one]
          exact h2
        | succ i =>
          rw [ap_Ns h] at hi
          rw [ap_Gs h h2] at hg
          have q := ap_byte k (v / 256) i hg (by omega)
          have e : v / 256 ^ (i + 1) = v / 256 / 256 ^ i := by rw [Nat.div_div_eq_div_mul, Nat.pow_succ, Nat.mul_comm]
          rw [e]
          exact q
      · rw [ap_Gb h h2] at hg
        exact absurd hg (by decide)
theorem VP_put {P : Nat → Int} {w n : Nat} (h : VP P n) : VP (apS w P n) (apL w n) := by
  by_cases q : ap_y w n
  · rw [apS_y q, apL_y q]
    have q1 : ap_G 8 w = true ∧ 0 < ap_N 8 w ∧ w / 256 ^ ap_N 8 w = 0 := by
      by_cases r : ap_G 8 w = true ∧ 0 < ap_N 8 w ∧ w / 256 ^ ap_N 8 w = 0
      · exact r
      · have e : ap_t w = -2 := if_neg r
        have h3 := q.1
        omega
    have e : ap_t w = (ap_N 8 w : Int) := if_pos q1
    have q2 := q.2
    rw [e] at q2
    refine ⟨by omega, fun j hj => ?_⟩
    unfold apP
    by_cases r : n ≤ j ∧ j < n + ap_N 8 w
    · rw [if_pos r]
      have b := ap_byte 8 w (ap_N 8 w - 1 - (j - n)) q1.1 (by omega)
      generalize w / 256 ^ (ap_N 8 w - 1 - (j - n)) = y at b ⊢
      omega
    · rw [if_neg r]
      exact h.2 j (by omega)
  · rw [apS_n q, apL_n q]
    exact h
theorem car_rng {P : Nat → Int} {n : Nat} {Z : Nat → Int} {v : Int} (hV : VL Z) : VL (ca_z P n Z v) ∧ (v ≤ ca_v P n Z v ∧ ca_v P n Z v ≤ v + 80080) ∧ (pd_fault P n = -6 ↔ ¬ ca_r P n Z v < 0) := by
  have h := ct_go_rng (P := P) (n := n) 80 0 0 Z v hV
  unfold ca_z ca_v ca_r
  by_cases a : pd_fault P n = -6
  · rw [if_pos a, if_pos a, if_pos a]
    exact ⟨h.2.1, ⟨h.2.2.1, by have := h.2.2.2; omega⟩, fun _ => by omega, fun _ => a⟩
  · rw [if_neg a, if_neg a, if_neg a]
    exact ⟨hV, by omega, fun q => absurd q a, fun q => absurd (by omega) q⟩
theorem HR.updC {G : Nat → Nat → Int} {asd len : Int} {F X Z W : Nat → Int} (h : HR G asd len F) (ha : 0 ≤ asd ∧ asd < 7) (hl : 0 ≤ len ∧ len ≤ 6) (he : EL Z W) (hV : VL Z) {C : Prop} [Decidable C] : (HR (if C then gup G asd.toNat (zmix 115 Z X) else G) (if C then (asd + 1) % 7 else asd) (if C then min (len + 1) 6 else len) (if C then rc_F F len (mz W) else F) ∧ (if C then rc_n len else len) = (if C then min (len + 1) 6 else len)) ∧ (0 ≤ (if C then (asd + 1) % 7 else asd) ∧ (if C then (asd + 1) % 7 else asd) < 7) ∧ (0 ≤ (if C then min (len + 1) 6 else len) ∧ (if C then min (len + 1) 6 else len) ≤ 6) := by
  by_cases q : C
  · rw [if_pos q, if_pos q, if_pos q, if_pos q, if_pos q]
    exact ⟨⟨h.rec ha hl he hV, rc_n_min hl⟩, by omega, by omega⟩
  · rw [if_neg q, if_neg q, if_neg q, if_neg q, if_neg q]
    exact ⟨⟨h, rfl⟩, ha, hl⟩
theorem lr_rest {S : Nat → Nat → Int} {Fl S2 Z : Nat → Int} (h : SR S Fl S2) (a : Int) : ∃ Y : Nat → Int, ((0 ≤ a ∧ a < 2) ∧ Fl a.toNat ≠ 0 → (∀ q : Nat, q < 115 → S2 (115 * a.toNat + q) = mz Y q) ∧ EL (zmix 115 (S a.toNat) Z) Y ∧ VL (zmix 115 (S a.toNat) Z)) := by
  by_cases w : (0 ≤ a ∧ a < 2) ∧ Fl a.toNat ≠ 0
  · obtain ⟨Y, h1, h2, h3⟩ := (h a.toNat (by omega)).2 w.2
    have hm := el_mix (F := Z) h2 h3
    exact ⟨Y, fun _ => ⟨h1, hm.1, hm.2⟩⟩
  · exact ⟨Z, fun q => absurd q w⟩
theorem lr_restr {S : Nat → Nat → Int} {Fl Z Y : Nat → Int} {a : Int} (h : (0 ≤ a ∧ a < 2) ∧ Fl a.toNat ≠ 0 → EL (zmix 115 (S a.toNat) Z) Y ∧ VL Y) : pl_rest Z S Fl a = (if 0 ≤ a ∧ a < 2 then (if Fl a.toNat = 0 then -5 else zsum (dy_mo Y) 24 + 10000000) else -2) := by
  unfold pl_rest
  by_cases w : 0 ≤ a ∧ a < 2
  · rw [if_pos w, if_pos w]
    by_cases v : Fl a.toNat = 0
    · rw [if_pos v, if_pos v]
    · rw [if_neg v, if_neg v]
      obtain ⟨h1, h2⟩ := h ⟨w, v⟩
      rw [zsum_congr 24 (fun j hj => (el_day h1 h2 (n := j) hj).2.2.2.2.2.1)]
  · rw [if_neg w, if_neg w]
