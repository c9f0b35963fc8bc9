/-! the search doesn't look at the plans -/
theorem ad_fill {Z Y : Nat → Int} (hq : ∀ k : Nat, k < 58 ∨ 82 ≤ k → Y k = Z k) {h : Nat} (hh : h < 24) (lev p : Int) : lk_fill Y h lev p = lk_fill Z h lev p := by
  unfold lk_fill lk_loss
  rw [hq 2 (by omega), hq (34 + h) (by omega)]
theorem ad_down {Z Y : Nat → Int} (hq : ∀ k : Nat, k < 58 ∨ 82 ≤ k → Y k = Z k) (fl w : Int) : lk_down Y fl w = lk_down Z fl w := by
  unfold lk_down
  rw [hq 5 (by omega)]
theorem ad_spill {Z Y : Nat → Int} (hq : ∀ k : Nat, k < 58 ∨ 82 ≤ k → Y k = Z k) (lev : Int) : lk_spill Y lev = lk_spill Z lev := by
  unfold lk_spill
  rw [hq 6 (by omega)]
theorem ad_want {Z Y : Nat → Int} (hq : ∀ k : Nat, k < 58 ∨ 82 ≤ k → Y k = Z k) (u : Int) : lk_want Y u = lk_want Z u := by
  unfold lk_want
  rw [hq 4 (by omega)]
theorem ad_cs {Z Y : Nat → Int} (hq : ∀ k : Nat, k < 58 ∨ 82 ≤ k → Y k = Z k) (h : Nat) (d : Int) : ∀ n : Nat, lk_cs Y h d n = lk_cs Z h d n
  | 0 => rfl
  | n + 1 => by
    unfold lk_cs
    rw [ad_cs hq h d n, hq (82 + n * 4 + 0) (by omega), hq (82 + n * 4 + 1) (by omega), hq (82 + n * 4 + 2) (by omega), hq (82 + n * 4 + 3) (by omega)]
theorem ad_earn {Z Y : Nat → Int} (hq : ∀ k : Nat, k < 58 ∨ 82 ≤ k → Y k = Z k) {h : Nat} (hh : h < 24) (d : Int) : lk_earn Y h d = lk_earn Z h d := by
  unfold lk_earn
  rw [ad_cs hq, hq (10 + h) (by omega), hq 3 (by omega), hq 114 (by omega), hq 4 (by omega), hq 9 (by omega)]
theorem ad_dn {Z Y : Nat → Int} (hq : ∀ k : Nat, k < 58 ∨ 82 ≤ k → Y k = Z k) {h : Nat} (hh : h < 24) (lev u : Int) : hr_dn Y h lev u = hr_dn Z h lev u := by
  unfold hr_dn
  rw [ad_fill hq hh, ad_want hq, ad_down hq]
theorem ad_behind {Z Y : Nat → Int} (hq : ∀ k : Nat, k < 58 ∨ 82 ≤ k → Y k = Z k) {h : Nat} (hh : h < 24) (lev u : Int) : lk_behind Y h lev u = lk_behind Z h lev u := by
  unfold lk_behind lk_beh2
  rw [ad_fill hq hh, ad_want hq, ad_down hq, ad_spill hq]
theorem ad_mo {Z Y : Nat → Int} (hq : ∀ k : Nat, k < 58 ∨ 82 ≤ k → Y k = Z k) {h : Nat} (hh : h < 24) (lev u : Int) : hr_mo Y h lev u = hr_mo Z h lev u := by
  unfold hr_mo
  rw [ad_dn hq hh, ad_earn hq hh, hq (10 + h) (by omega)]
theorem ad_bv {Z Y : Nat → Int} (hq : ∀ k : Nat, k < 58 ∨ 82 ≤ k → Y k = Z k) (N : Int) : ∀ r : Nat, r ≤ 24 → ∀ l : Int, bv N Y r l = bv N Z r l
  | 0, _, l => by
    unfold bv
    rw [hq 8 (by omega)]
  | r + 1, hr, l => by
    have ih := ad_bv hq N r (by omega)
    have e : (fun u => fv N Y r (23 - r) l u) = fun u => fv N Z r (23 - r) l u := by
      funext u
      unfold fv
      rw [ad_behind hq (by omega), ad_mo hq (by omega), ih]
    rw [bv_s, bv_s, e, hq 0 (by omega), hq 1 (by omega)]
theorem ad_fv {Z Y : Nat → Int} (hq : ∀ k : Nat, k < 58 ∨ 82 ≤ k → Y k = Z k) (N : Int) {r h : Nat} (hr : r ≤ 24) (hh : h < 24) (lev : Int) : fv N Y r h lev = fv N Z r h lev := by
  funext u
  unfold fv
  rw [ad_behind hq hh, ad_mo hq hh, ad_bv hq N r hr]
theorem ad_bl {Z Y : Nat → Int} (hq : ∀ k : Nat, k < 58 ∨ 82 ≤ k → Y k = Z k) (N : Int) : ∀ h : Nat, h ≤ 24 → bl N Y h = bl N Z h
  | 0, _ => hq 7 (by omega)
  | h + 1, hh => by
    have ih := ad_bl hq N h (by omega)
    unfold bl
    rw [ih, ad_fv hq N (by omega) (by omega), ad_bv hq N _ (by omega), hq 0 (by omega), hq 1 (by omega), ad_behind hq (by omega)]
theorem ad_bp {Z Y : Nat → Int} (hq : ∀ k : Nat, k < 58 ∨ 82 ≤ k → Y k = Z k) (N : Int) {h : Nat} (hh : h < 24) : bp N Y h = bp N Z h := by
  unfold bp
  rw [ad_bl hq N h (by omega), ad_fv hq N (by omega) hh, ad_bv hq N _ (by omega), hq 0 (by omega), hq 1 (by omega)]
theorem ad_SOL {Z Y : Nat → Int} (hq : ∀ k : Nat, k < 58 ∨ 82 ≤ k → Y k = Z k) {M : Nat → Nat → Int} {P : Nat → Int} {fo : Int} (h : SOL Z M P fo) : SOL Y M P fo := by
  obtain ⟨h1, h2, h3⟩ := h
  refine ⟨fun k k1 k2 l l2 l3 => ?_, ?_, fun hn k hk => ?_⟩
  · rw [ad_bv hq NOP _ (by omega)]
    exact h1 k k1 k2 l l2 (by rw [← hq 6 (by omega)]; exact l3)
  · rw [ad_bv hq NOP _ (by omega), hq 7 (by omega)]
    exact h2
  · rw [ad_bp hq NOP hk]
    rw [ad_bv hq NOP _ (by omega), hq 7 (by omega)] at hn
    exact h3 hn k hk
/-- the first n plans are the best's -/
def pl_ad (Z : Nat → Int) (n : Nat) : Nat → Int := fun k => if 58 ≤ k ∧ k < 58 + n then bp NOP Z (k - 58) else Z k
def ad_c (Z : Nat → Int) : Nat → Int
  | 0 => 0
  | n + 1 => ad_c Z n + (if Z (58 + n) = bp NOP Z n then 0 else 1)
theorem ad_c_rng (Z : Nat → Int) : ∀ n : Nat, 0 ≤ ad_c Z n ∧ ad_c Z n ≤ (n : Int)
  | 0 => ⟨Int.le_refl _, Int.le_refl _⟩
  | n + 1 => by
    have := ad_c_rng Z n
    unfold ad_c
    split <;> omega
theorem pl_ad_0 (Z : Nat → Int) : Z = pl_ad Z 0 := by
  funext k
  exact (if_neg (by omega)).symm
theorem pl_ad_out {Z : Nat → Int} {n k : Nat} (h : ¬ (58 ≤ k ∧ k < 58 + n)) : pl_ad Z n k = Z k := if_neg h
theorem pl_ad_in {Z : Nat → Int} {n h : Nat} (hh : h < n) : pl_ad Z n (58 + h) = bp NOP Z h := (if_pos (by omega)).trans (by rw [show 58 + h - 58 = h by omega])
theorem pl_ad_e {Z : Nat → Int} {n : Nat} (h : Z (58 + n) = bp NOP Z n) : pl_ad Z n = pl_ad Z (n + 1) := by
  funext k
  unfold pl_ad
  by_cases e : k = 58 + n
  · subst e
    rw [if_neg (by omega), if_pos (by omega), show 58 + n - 58 = n by omega, h]
  · by_cases q : 58 ≤ k ∧ k < 58 + n
    · rw [if_pos q, if_pos (by omega)]
    · rw [if_neg q, if_neg (by omega)]
theorem pl_ad_s {Z : Nat → Int} {n : Nat} (hn : n < 24) (hp : -(Z 0) ≤ bp NOP Z n ∧ bp NOP Z n ≤ Z 1) : lk_zPlan (pl_ad Z n) ((n : Nat) : Int) (bp NOP Z n) = pl_ad Z (n + 1) := by
  unfold lk_zPlan
  rw [pl_ad_out (k := 0) (by omega), pl_ad_out (k := 1) (by omega), if_pos ⟨by omega, hp⟩]
  funext k
  unfold zup pl_ad
  by_cases e : k = 58 + n
  · subst e
    rw [if_pos (by omega), if_pos (by omega), show 58 + n - 58 = n by omega]
  · rw [if_neg (by omega)]
    by_cases q : 58 ≤ k ∧ k < 58 + n
    · rw [if_pos q, if_pos (by omega)]
    · rw [if_neg q, if_neg (by omega)]
theorem VL_ad {Z : Nat → Int} (hV : VL Z) (hne : bv NOP Z 24 (Z 7) ≠ NOP) : ∀ n : Nat, n ≤ 24 → VL (pl_ad Z n)
  | 0, _ => by rw [← pl_ad_0]; exact hV
  | n + 1, hn => by
    have ih := VL_ad hV hne n (by omega)
    have hb := ((bp_ok hV NOP_le hne n (by omega)).2.2 (by omega)).1
    rw [← pl_ad_s (by omega) hb]
    exact VL_zPlan ih _ _
