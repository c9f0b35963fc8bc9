/-! the reference's table, row by row -/
theorem MTk_put {Z W : Nat → Int} {k j : Nat} {v : Int} (hk : k < 24) (hM : MT Z W (24 - k)) (hj : j ≤ 200) : MT Z (zup W (201 * (23 - k) + j) v) (24 - k) := fun h h1 h2 l hl => by
  unfold zup
  rw [if_neg (by omega)]
  exact hM h h1 h2 l hl
theorem MTr_put {Z W : Nat → Int} {k j : Nat} {v : Int} (hR : ∀ i : Nat, i < j → W (201 * (23 - k) + i) = bv NEV Z (k + 1) (i : Int)) (hv : v = bv NEV Z (k + 1) (j : Int)) : ∀ i : Nat, i < j + 1 → zup W (201 * (23 - k) + j) v (201 * (23 - k) + i) = bv NEV Z (k + 1) (i : Int) := fun i hi => by
  unfold zup
  by_cases w : i = j
  · subst w
    rw [if_pos rfl, hv]
  · rw [if_neg (by omega)]
    exact hR i (by omega)
theorem MTk_row {Z W : Nat → Int} {k : Nat} (hk : k < 24) (hM : MT Z W (24 - k)) (hR : ∀ i : Nat, i < 201 → W (201 * (23 - k) + i) = bv NEV Z (k + 1) (i : Int)) : MT Z W (24 - (k + 1)) := fun h h1 h2 l hl => by
  by_cases w : h = 23 - k
  · subst w
    rw [hR l (by omega), show 24 - (23 - k) = k + 1 by omega]
  · exact hM h (by omega) h2 l hl
theorem MT_last {Z M : Nat → Int} : MT Z (zlay 4824 201 (fun q => bv NEV Z 0 ((q : Nat) : Int)) M) (24 - 0) := fun h h1 h2 l hl => by
  have e : h = 24 := by omega
  subst e
  rw [show 201 * 24 + l = 4824 + l by omega, zlay_in (by omega)]
theorem bv_nev_rng {Z : Nat → Int} (hV : VL Z) {r : Nat} (hr : r ≤ 24) {l : Int} (hl : 0 ≤ l) : bv NEV Z r l = -100000000 ∨ (-2700000 ≤ bv NEV Z r l ∧ bv NEV Z r l ≤ 2700000) := by
  have h := bv_rng hV NEV_le r hr l hl
  have e2 : NEV = -100000000 := rfl
  omega
theorem fv_nev_rng {Z : Nat → Int} (hV : VL Z) {r h : Nat} (hr : r ≤ 23) (hh : h < 24) {l u : Int} (hl : 0 ≤ l) (hu : -30 ≤ u ∧ u ≤ 30) : fv NEV Z r h l u = -100000000 ∨ (-4000000 ≤ fv NEV Z r h l u ∧ fv NEV Z r h l u ≤ 4000000) := by
  have h := fv_rng hV NEV_le hr hh hl hu
  have e2 : NEV = -100000000 := rfl
  omega
theorem zmax_nev_rng {Z : Nat → Int} (hV : VL Z) {r h : Nat} (hr : r ≤ 23) (hh : h < 24) {l a : Int} (hl : 0 ≤ l) (ha : -30 ≤ a) : ∀ k : Nat, a + (k : Int) ≤ 31 → -100000000 ≤ zmax NEV (fun u => fv NEV Z r h l u) a k ∧ zmax NEV (fun u => fv NEV Z r h l u) a k ≤ 4000000
  | 0, _ => by
    show (-100000000 : Int) ≤ NEV ∧ NEV ≤ 4000000
    have e2 : NEV = -100000000 := rfl
    omega
  | k + 1, hk => by
    have ih := zmax_nev_rng hV hr hh hl ha k (by omega)
    have h1 := fv_nev_rng hV hr hh hl (u := a + (k : Int)) (by omega)
    show -100000000 ≤ max (zmax NEV (fun u => fv NEV Z r h l u) a k) (fv NEV Z r h l (a + (k : Int))) ∧ max (zmax NEV (fun u => fv NEV Z r h l u) a k) (fv NEV Z r h l (a + (k : Int))) ≤ 4000000
    omega
/-! the best plan is taken, hour by hour -/
theorem pl_ad_up (Z : Nat → Int) (n : Nat) : zup (pl_ad Z n) (58 + n) (bp NOP Z n) = pl_ad Z (n + 1) := by
  funext k
  unfold zup pl_ad
  by_cases a : k = 58 + n
  · subst a
    rw [if_pos rfl, if_pos (by omega), show 58 + n - 58 = n by omega]
  · rw [if_neg a]
    by_cases b : 58 ≤ k ∧ k < 58 + n
    · rw [if_pos b, if_pos (by omega)]
    · rw [if_neg b, if_neg (by omega)]
theorem ad_q {Z : Nat → Int} {n : Nat} (hn : n ≤ 24) : ∀ k : Nat, k < 58 ∨ 82 ≤ k → pl_ad Z n k = Z k := fun k hk => pl_ad_out (by omega)
theorem MT_ad {Z M : Nat → Int} {n : Nat} (hn : n ≤ 24) (hM : MT Z M 0) : MT (pl_ad Z n) M 0 := fun h h1 h2 l hl => by
  rw [hM h h1 h2 l hl, ad_bv (ad_q hn) NEV (24 - h) (by omega)]
theorem bq_ad {Z : Nat → Int} {n h : Nat} (hn : n ≤ 24) (hh : h < 24) (N l : Int) : bq N (pl_ad Z n) h l = bq N Z h l := by
  unfold bq
  rw [ad_fv (ad_q hn) N (r := 23 - h) (by omega) hh l, ad_bv (ad_q hn) N (24 - h) (by omega) l, ad_q hn 0 (by omega), ad_q hn 1 (by omega)]
theorem bl_ne {Z : Nat → Int} (hV : VL Z) (h0 : bv NOP Z 24 (Z 7) ≠ NOP) {n : Nat} (hn : n < 24) : (0 ≤ bl NOP Z n ∧ bl NOP Z n ≤ 200) ∧ bv NOP Z (24 - n) (bl NOP Z n) ≠ NOP ∧ (-(Z 0) ≤ bp NOP Z n ∧ bp NOP Z n ≤ Z 1) ∧ bq NEV Z n (bl NOP Z n) = bp NOP Z n ∧ bv NEV Z (24 - n) (bl NOP Z n) ≠ NEV := by
  have h := bp_ok hV NOP_le h0 n (by omega)
  refine ⟨⟨h.1.1, h.1.2.1⟩, h.2.1, (h.2.2 hn).1, ?_, fun q => h.2.1 ((bv_ne_nev hV (by omega) h.1.1).1 q)⟩
  rw [bq_nev hV hn h.1.1 h.2.1, bp_bq]
theorem bl_ad {Z : Nat → Int} (hV : VL Z) (h0 : bv NOP Z 24 (Z 7) ≠ NOP) {n : Nat} (hn : n < 24) : bq NEV (pl_ad Z n) n (bl NOP Z n) = bp NOP Z n ∧ bv NEV (pl_ad Z n) (24 - n) (bl NOP Z n) ≠ NEV ∧ hr_lv (pl_ad Z n) n (bl NOP Z n) (bp NOP Z n) = bl NOP Z (n + 1) := by
  have h := bl_ne hV h0 hn
  refine ⟨by rw [bq_ad (by omega) hn]; exact h.2.2.2.1, by rw [ad_bv (ad_q (by omega)) NEV (24 - n) (by omega)]; exact h.2.2.2.2, ?_⟩
  rw [hr_lv_eq, ad_behind (ad_q (by omega)) hn, bl_s]
