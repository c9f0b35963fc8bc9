/-! the most money from an hour and a level on; N stands where no plan leads to END -/
def zmax (N : Int) (f : Int → Int) (a : Int) : Nat → Int
  | 0 => N
  | k + 1 => max (zmax N f a k) (f (a + (k : Int)))
def bv (N : Int) (Z : Nat → Int) : Nat → Int → Int
  | 0, l => if Z 8 ≤ l then 0 else N
  | r + 1, l => zmax N (fun u => gn N (bv N Z r (lk_behind Z (23 - r) l u)) (hr_mo Z (23 - r) l u)) (-(Z 0)) (Z 0 + Z 1 + 1).toNat
/-- the money from hour h on by the plan u, r hours are behind it -/
def fv (N : Int) (Z : Nat → Int) (r h : Nat) (lev u : Int) : Int := gn N (bv N Z r (lk_behind Z h lev u)) (hr_mo Z h lev u)
theorem bv_s (N : Int) (Z : Nat → Int) (r : Nat) (l : Int) : bv N Z (r + 1) l = zmax N (fun u => fv N Z r (23 - r) l u) (-(Z 0)) (Z 0 + Z 1 + 1).toNat := rfl
theorem zmax_le {N : Int} {f : Int → Int} {a b : Int} : ∀ k : Nat, N ≤ b → (∀ j : Nat, j < k → f (a + (j : Int)) ≤ b) → zmax N f a k ≤ b
  | 0, h, _ => h
  | k + 1, h, hf => by
    have ih := zmax_le (f := f) (a := a) k h (fun j hj => hf j (by omega))
    have := hf k (by omega)
    unfold zmax
    omega
theorem zmax_ge {N : Int} {f : Int → Int} {a : Int} : ∀ k : Nat, N ≤ zmax N f a k ∧ ∀ j : Nat, j < k → f (a + (j : Int)) ≤ zmax N f a k
  | 0 => ⟨Int.le_refl _, fun j h => absurd h (Nat.not_lt_zero j)⟩
  | k + 1 => by
    obtain ⟨h1, h2⟩ := zmax_ge (N := N) (f := f) (a := a) k
    unfold zmax
    refine ⟨by omega, fun j hj => ?_⟩
    by_cases h : j = k
    · subst h
      omega
    · have := h2 j (by omega)
      omega
theorem zmax_at {N : Int} {f : Int → Int} {a : Int} : ∀ k : Nat, zmax N f a k = N ∨ ∃ j : Nat, j < k ∧ zmax N f a k = f (a + (j : Int))
  | 0 => Or.inl rfl
  | k + 1 => by
    have ih := zmax_at (N := N) (f := f) (a := a) k
    unfold zmax
    by_cases h : zmax N f a k ≤ f (a + (k : Int))
    · exact Or.inr ⟨k, by omega, by omega⟩
    · rcases ih with ih | ⟨j, hj, ih⟩
      · exact Or.inl (by omega)
      · exact Or.inr ⟨j, by omega, by omega⟩
theorem hr_mo_rng {Z : Nat → Int} (hV : VL Z) {k : Nat} (hk : k < 24) (lev : Int) {u : Int} (hu : -30 ≤ u ∧ u ≤ 30) : -111000 ≤ hr_mo Z k lev u ∧ hr_mo Z k lev u ≤ 111000 := by
  have h1 := hr_dn_rng hV k lev hu
  have h2 := lk_earn_rng hV hk h1
  have h3 := zmul (lk_pump_rng hu) (hV.2.1 k hk).1
  unfold hr_mo
  omega
/-- what is reached is far above N -/
theorem bv_rng {Z : Nat → Int} (hV : VL Z) {N : Int} (hN : N ≤ -100000000) : ∀ r : Nat, r ≤ 24 → ∀ l : Int, 0 ≤ l → bv N Z r l = N ∨ (-(111000 * (r : Int)) ≤ bv N Z r l ∧ bv N Z r l ≤ 111000 * (r : Int))
  | 0, _, l, _ => by
    unfold bv
    split
    · exact Or.inr (by omega)
    · exact Or.inl rfl
  | r + 1, hr, l, hl => by
    have ih := bv_rng hV hN r (by omega)
    have hs := hV.1
    unfold VS at hs
    rw [bv_s]
    rcases zmax_at (N := N) (f := fun u => fv N Z r (23 - r) l u) (a := -(Z 0)) (Z 0 + Z 1 + 1).toNat with h | ⟨j, hj, h⟩
    · exact Or.inl h
    · rw [h]
      have hu : -30 ≤ -(Z 0) + (j : Int) ∧ -(Z 0) + (j : Int) ≤ 30 := by omega
      have h1 := ih (lk_behind Z (23 - r) l (-(Z 0) + (j : Int))) (lk_behind_rng hV (show 23 - r < 24 by omega) hl hu).1
      have h2 := hr_mo_rng hV (show 23 - r < 24 by omega) l hu
      unfold fv gn
      split
      · exact Or.inl rfl
      · rcases h1 with h1 | h1
        · contradiction
        · exact Or.inr (by omega)
theorem fv_rng {Z : Nat → Int} (hV : VL Z) {N : Int} (hN : N ≤ -100000000) {r h : Nat} (hr : r ≤ 23) (hh : h < 24) {l u : Int} (hl : 0 ≤ l) (hu : -30 ≤ u ∧ u ≤ 30) : fv N Z r h l u = N ∨ (-3000000 ≤ fv N Z r h l u ∧ fv N Z r h l u ≤ 3000000) := by
  have h1 := bv_rng hV hN r (by omega) (lk_behind Z h l u) (lk_behind_rng hV hh hl hu).1
  have h2 := hr_mo_rng hV hh l hu
  unfold fv gn
  split
  · exact Or.inl rfl
  · rcases h1 with h1 | h1
    · contradiction
    · exact Or.inr (by omega)
/-- rows from h0 on hold the most money -/
def MS (Z : Nat → Int) (M : Nat → Nat → Int) (h0 : Nat) : Prop := ∀ h : Nat, h0 ≤ h → h ≤ 24 → ∀ l : Nat, l ≤ 200 → (h = 0 ∨ h = 24 ∨ (l : Int) ≤ Z 6) → M h l = bv NOP Z (24 - h) (l : Int)
theorem NOP_le : NOP ≤ -100000000 := by decide
theorem MS.rng {Z : Nat → Int} {M : Nat → Nat → Int} {h0 h l : Nat} (hV : VL Z) (hM : MS Z M h0) (h1 : h0 ≤ h) (h2 : h ≤ 24) (h3 : l ≤ 200) (h4 : h = 0 ∨ h = 24 ∨ (l : Int) ≤ Z 6) : -1000000000 ≤ M h l ∧ M h l ≤ 1000000000 := by
  rw [hM h h1 h2 l h3 h4]
  have := bv_rng hV NOP_le (24 - h) (by omega) (l : Int) (by omega)
  have e : NOP = -1000000000 := rfl
  omega
/-- out of the rows: the money from hour h on, but for what is paid for pumping -/
theorem mwF_fv {Z : Nat → Int} {M : Nat → Nat → Int} {A E : Nat → Int} {h : Nat} (hV : VL Z) (hM : MS Z M (h + 1)) (hh : h < 24) (hA : ∀ r : Nat, r < 330 → A r = ahF Z M h r) (hE : ∀ r : Nat, r < 31 → E r = eaF Z h r) {f d : Int} (hd : 0 ≤ d ∧ d ≤ 30) (hf : 0 ≤ f - d ∧ f - d ≤ 329) : mwF A E f d = gn NOP (bv NOP Z (23 - h) (f - d - lk_spill Z (f - d))) (lk_earn Z h d) := by
  have hs := hV.1
  unfold VS at hs
  have hsp : lk_spill Z (f - d) = max 0 (f - d - Z 6) := rfl
  have e1 : A (f - d).toNat = bv NOP Z (23 - h) (f - d - lk_spill Z (f - d)) := by
    rw [hA _ (by omega)]
    unfold ahF
    rw [show (((f - d).toNat : Nat) : Int) = f - d by omega, hM (h + 1) (Nat.le_refl _) (by omega) _ (by omega) (Or.inr (Or.inr (by omega))), show 24 - (h + 1) = 23 - h by omega, show (((f - d - lk_spill Z (f - d)).toNat : Nat) : Int) = f - d - lk_spill Z (f - d) by omega]
  have e2 : E d.toNat = lk_earn Z h d := by
    rw [hE _ (by omega)]
    unfold eaF
    rw [show ((d.toNat : Nat) : Int) = d by omega]
  unfold mwF gn
  rw [e1, e2]
  have e : NOP = -1000000000 := rfl
  by_cases q : bv NOP Z (23 - h) (f - d - lk_spill Z (f - d)) = NOP
  · rw [if_pos q, if_neg (fun w => w.2.2 (by rw [q, e])), e]
  · rw [if_neg q, if_pos ⟨hd, hf, by rw [← e]; exact q⟩]
theorem fv_eq (N : Int) (Z : Nat → Int) (r h : Nat) (lev u : Int) : fv N Z r h lev u = gn N (bv N Z r (lk_fill Z h lev (lk_pump u) - hr_dn Z h lev u - lk_spill Z (lk_fill Z h lev (lk_pump u) - hr_dn Z h lev u))) (lk_earn Z h (hr_dn Z h lev u) - lk_pump u * Z (10 + h)) := rfl
theorem gn_sub {N v m c : Int} : gn N v (m - c) = if gn N v m = N ∧ v = N then N else gn N v m - c := by
  unfold gn
  by_cases h : v = N
  · rw [if_pos h, if_pos h, if_pos ⟨rfl, h⟩]
  · rw [if_neg h, if_neg h, if_neg (fun q => h q.2)]
    omega
/-- the bounds that one hour keeps to -/
theorem hr_in {Z : Nat → Int} (hV : VL Z) {h : Nat} (hh : h < 24) {lev u : Int} (hl : 0 ≤ lev ∧ lev ≤ 200) (hu : -30 ≤ u ∧ u ≤ 30) : (0 ≤ hr_dn Z h lev u ∧ hr_dn Z h lev u ≤ 30) ∧ (0 ≤ lk_fill Z h lev (lk_pump u) - hr_dn Z h lev u ∧ lk_fill Z h lev (lk_pump u) - hr_dn Z h lev u ≤ 329) := by
  have h1 := hr_rng hV hh (lev := lev) (by omega) hu
  have h2 := lk_loss_rng hV (lk_pump_rng hu)
  have h3 := (hV.2.1 h hh).2.1
  have h4 := lk_pump_rng hu
  have h5 : lk_fill Z h lev (lk_pump u) = lev + lk_pump u - lk_loss Z (lk_pump u) + Z (34 + h) := rfl
  omega
/-- leastWithTheMost's look at a plan -/
theorem lvF_fv {Z : Nat → Int} {M : Nat → Nat → Int} {A E : Nat → Int} {h : Nat} (hV : VL Z) (hM : MS Z M (h + 1)) (hh : h < 24) (hA : ∀ r : Nat, r < 330 → A r = ahF Z M h r) (hE : ∀ r : Nat, r < 31 → E r = eaF Z h r) {lev u : Int} (hl : 0 ≤ lev ∧ lev ≤ 200) (hu : -30 ≤ u ∧ u ≤ 30) {goal : Int} (hg : goal ≠ NOP) : (lvF Z A E h lev u ≠ -1000000000 ∧ lvF Z A E h lev u - lk_pump u * Z (10 + h) = goal) ↔ fv NOP Z (23 - h) h lev u = goal := by
  have h1 := hr_in hV hh hl hu
  have e : lvF Z A E h lev u = gn NOP (bv NOP Z (23 - h) (lk_fill Z h lev (lk_pump u) - hr_dn Z h lev u - lk_spill Z (lk_fill Z h lev (lk_pump u) - hr_dn Z h lev u))) (lk_earn Z h (hr_dn Z h lev u)) := mwF_fv hV hM hh hA hE h1.1 h1.2
  rw [e, fv_eq]
  have h2 := bv_rng hV NOP_le (23 - h) (by omega) (lk_fill Z h lev (lk_pump u) - hr_dn Z h lev u - lk_spill Z (lk_fill Z h lev (lk_pump u) - hr_dn Z h lev u)) (lk_behind_rng hV hh hl.1 hu).1
  have h3 := lk_earn_rng hV hh h1.1
  have eN : NOP = -1000000000 := rfl
  generalize bv NOP Z (23 - h) (lk_fill Z h lev (lk_pump u) - hr_dn Z h lev u - lk_spill Z (lk_fill Z h lev (lk_pump u) - hr_dn Z h lev u)) = v at h2 ⊢
  unfold gn
  by_cases q : v = NOP
  · rw [if_pos q, if_pos q]
    exact ⟨fun w => absurd eN w.1, fun w => absurd w.symm hg⟩
  · rw [if_neg q, if_neg q]
    rcases h2 with h2 | h2
    · exact absurd h2 q
    · exact ⟨fun w => by omega, fun w => ⟨by omega, by omega⟩⟩
/-- two plans with the same pumping and the same water let down bring the same -/
theorem fv_cong {N : Int} {Z : Nat → Int} {r h : Nat} {lev u v : Int} (h1 : lk_pump u = lk_pump v) (h2 : hr_dn Z h lev u = hr_dn Z h lev v) : fv N Z r h lev u = fv N Z r h lev v := by
  rw [fv_eq, fv_eq, h1, h2]
section SH
variable {Z : Nat → Int} {M : Nat → Nat → Int} {A E I G : Nat → Int} {h : Nat} {lev : Int}
/-- what pumping n brings, out of the rows -/
theorem mp_fv (hV : VL Z) (hM : MS Z M (h + 1)) (hh : h < 24) (hA : ∀ r : Nat, r < 330 → A r = ahF Z M h r) (hE : ∀ r : Nat, r < 31 → E r = eaF Z h r) (hI : ∀ r : Nat, r < 330 → I r = idF Z A E r) (hG : ∀ r : Nat, r < 31 → G r = gaF Z r) (hl : 0 ≤ lev ∧ lev ≤ 200) {n : Nat} (hn : (n : Int) ≤ Z 0) :
    (0 ≤ lev + Z (34 + h) + G n ∧ lev + Z (34 + h) + G n ≤ 329) ∧ (I (lev + Z (34 + h) + G n).toNat = -1000000000 ∧ fv NOP Z (23 - h) h lev (-(n : Int)) = NOP ∨ I (lev + Z (34 + h) + G n).toNat ≠ -1000000000 ∧ I (lev + Z (34 + h) + G n).toNat - (n : Int) * Z (10 + h) = fv NOP Z (23 - h) h lev (-(n : Int))) := by
  have hs := hV.1
  unfold VS at hs
  have hu : -30 ≤ -(n : Int) ∧ -(n : Int) ≤ 30 := by omega
  have hp : lk_pump (-(n : Int)) = (n : Int) := by unfold lk_pump; omega
  have hw : lk_want Z (-(n : Int)) = Z 4 := by unfold lk_want; omega
  have hf : lev + Z (34 + h) + G n = lk_fill Z h lev (n : Int) := by rw [hG n (by omega)]; unfold gaF lk_fill; omega
  have hr := hr_in hV hh hl hu
  have hd : hr_dn Z h lev (-(n : Int)) = lk_down Z (lk_fill Z h lev (n : Int)) (Z 4) := by unfold hr_dn; rw [hp, hw]
  rw [hp] at hr
  have hfr : 0 ≤ lk_fill Z h lev (n : Int) ∧ lk_fill Z h lev (n : Int) ≤ 329 := by
    have h1 := lk_fill_rng hV hh (lev := lev) (p := (n : Int)) (by omega)
    omega
  rw [hf]
  refine ⟨hfr, ?_⟩
  have hi : I (lk_fill Z h lev (n : Int)).toNat = mwF A E (lk_fill Z h lev (n : Int)) (hr_dn Z h lev (-(n : Int))) := by
    rw [hI _ (by omega)]
    unfold idF
    rw [show (((lk_fill Z h lev (n : Int)).toNat : Nat) : Int) = lk_fill Z h lev (n : Int) by omega, hd]
  rw [hi, mwF_fv hV hM hh hA hE hr.1 hr.2, fv_eq, hp]
  have h2 := bv_rng hV NOP_le (23 - h) (by omega) (lk_fill Z h lev (n : Int) - hr_dn Z h lev (-(n : Int)) - lk_spill Z (lk_fill Z h lev (n : Int) - hr_dn Z h lev (-(n : Int)))) (by have := (lk_behind_rng hV hh hl.1 hu).1; rw [← hr_lv_eq] at this; unfold hr_lv hr_sp at this; rw [hp] at this; exact this)
  have h3 := lk_earn_rng hV hh hr.1
  have eN : NOP = -1000000000 := rfl
  generalize bv NOP Z (23 - h) (lk_fill Z h lev (n : Int) - hr_dn Z h lev (-(n : Int)) - lk_spill Z (lk_fill Z h lev (n : Int) - hr_dn Z h lev (-(n : Int)))) = v at h2 ⊢
  unfold gn
  by_cases q : v = NOP
  · rw [if_pos q, if_pos q]
    exact Or.inl ⟨eN, rfl⟩
  · rw [if_neg q, if_neg q]
    rcases h2 with h2 | h2
    · exact absurd h2 q
    · exact Or.inr ⟨by omega, by omega⟩
/-- what is brought by letting d down, more than FLOW, and no more than the lake gives -/
theorem md_fv (hV : VL Z) (hM : MS Z M (h + 1)) (hh : h < 24) (hA : ∀ r : Nat, r < 330 → A r = ahF Z M h r) (hE : ∀ r : Nat, r < 31 → E r = eaF Z h r) (hl : 0 ≤ lev ∧ lev ≤ 200) {d : Nat} (hd1 : (d : Int) ≤ Z 1) (hd2 : (d : Int) ≤ lev + Z (34 + h) - Z 5) (hd3 : Z 4 < (d : Int)) :
    (0 ≤ lev + Z (34 + h) - (d : Int) ∧ lev + Z (34 + h) - (d : Int) ≤ 329) ∧ (A (lev + Z (34 + h) - (d : Int)).toNat = -1000000000 ∧ fv NOP Z (23 - h) h lev (d : Int) = NOP ∨ A (lev + Z (34 + h) - (d : Int)).toNat ≠ -1000000000 ∧ A (lev + Z (34 + h) - (d : Int)).toNat + E d = fv NOP Z (23 - h) h lev (d : Int)) := by
  have hs := hV.1
  unfold VS at hs
  have hin := (hV.2.1 h hh).2.1
  have hu : -30 ≤ (d : Int) ∧ (d : Int) ≤ 30 := by omega
  have hp : lk_pump (d : Int) = 0 := by unfold lk_pump; omega
  have hf : lk_fill Z h lev 0 = lev + Z (34 + h) := by unfold lk_fill lk_loss; omega
  have hd : hr_dn Z h lev (d : Int) = (d : Int) := by unfold hr_dn lk_want; rw [hp, hf]; unfold lk_down; omega
  have hr := hr_in hV hh hl hu
  rw [hp, hf, hd] at hr
  refine ⟨hr.2, ?_⟩
  have hm := mwF_fv hV hM hh hA hE (f := lev + Z (34 + h)) (d := (d : Int)) hr.1 hr.2
  have hx : mwF A E (lev + Z (34 + h)) (d : Int) = if A (lev + Z (34 + h) - (d : Int)).toNat ≠ -1000000000 then A (lev + Z (34 + h) - (d : Int)).toNat + E d else -1000000000 := by
    unfold mwF
    by_cases q : A (lev + Z (34 + h) - (d : Int)).toNat ≠ -1000000000
    · rw [if_pos ⟨hr.1, hr.2, q⟩, if_pos q, show (d : Int).toNat = d by omega]
    · rw [if_neg (fun w => q w.2.2), if_neg q]
  rw [hx] at hm
  rw [fv_eq, hp, hf, hd, Int.zero_mul, Int.sub_zero, ← hm]
  have eN : NOP = -1000000000 := rfl
  by_cases q : A (lev + Z (34 + h) - (d : Int)).toNat = -1000000000
  · exact Or.inl ⟨q, by rw [if_neg (fun w => w q), eN]⟩
  · exact Or.inr ⟨q, by rw [if_pos q]⟩
end SH
section SR
variable {Z : Nat → Int} {M : Nat → Nat → Int} {A E I G : Nat → Int} {h : Nat} {lev : Int}
theorem mp_le (hV : VL Z) (hM : MS Z M (h + 1)) (hh : h < 24) (hA : ∀ r : Nat, r < 330 → A r = ahF Z M h r) (hE : ∀ r : Nat, r < 31 → E r = eaF Z h r) (hI : ∀ r : Nat, r < 330 → I r = idF Z A E r) (hG : ∀ r : Nat, r < 31 → G r = gaF Z r) (hl : 0 ≤ lev ∧ lev ≤ 200) {b : Int} (hb : NOP ≤ b) (hf : ∀ n : Nat, (n : Int) ≤ Z 0 → fv NOP Z (23 - h) h lev (-(n : Int)) ≤ b) : ∀ k : Nat, (k : Int) ≤ Z 0 + 1 → mpF I G (lev + Z (34 + h)) (Z (10 + h)) k ≤ b
  | 0, _ => hb
  | k + 1, hk => by
    have ih := mp_le hV hM hh hA hE hI hG hl hb hf k (by omega)
    have h1 := mp_fv hV hM hh hA hE hI hG hl (n := k) (by omega)
    have h2 := hf k (by omega)
    unfold mpF
    split
    · rename_i q
      rcases h1.2 with w | w
      · exact absurd w.1 q.2
      · omega
    · exact ih
theorem mp_ge (hV : VL Z) (hM : MS Z M (h + 1)) (hh : h < 24) (hA : ∀ r : Nat, r < 330 → A r = ahF Z M h r) (hE : ∀ r : Nat, r < 31 → E r = eaF Z h r) (hI : ∀ r : Nat, r < 330 → I r = idF Z A E r) (hG : ∀ r : Nat, r < 31 → G r = gaF Z r) (hl : 0 ≤ lev ∧ lev ≤ 200) : ∀ k : Nat, (k : Int) ≤ Z 0 + 1 → NOP ≤ mpF I G (lev + Z (34 + h)) (Z (10 + h)) k ∧ ∀ n : Nat, n < k → fv NOP Z (23 - h) h lev (-(n : Int)) ≤ mpF I G (lev + Z (34 + h)) (Z (10 + h)) k
  | 0, _ => ⟨Int.le_refl _, fun n hn => absurd hn (Nat.not_lt_zero n)⟩
  | k + 1, hk => by
    obtain ⟨ih1, ih2⟩ := mp_ge hV hM hh hA hE hI hG hl k (by omega)
    have h1 := mp_fv hV hM hh hA hE hI hG hl (n := k) (by omega)
    have key : mpF I G (lev + Z (34 + h)) (Z (10 + h)) k ≤ mpF I G (lev + Z (34 + h)) (Z (10 + h)) (k + 1) ∧ fv NOP Z (23 - h) h lev (-(k : Int)) ≤ mpF I G (lev + Z (34 + h)) (Z (10 + h)) (k + 1) := by
      rw [show mpF I G (lev + Z (34 + h)) (Z (10 + h)) (k + 1) = if (0 ≤ lev + Z (34 + h) + G k ∧ lev + Z (34 + h) + G k ≤ 329) ∧ I (lev + Z (34 + h) + G k).toNat ≠ -1000000000 then max (mpF I G (lev + Z (34 + h)) (Z (10 + h)) k) (I (lev + Z (34 + h) + G k).toNat - (k : Int) * Z (10 + h)) else mpF I G (lev + Z (34 + h)) (Z (10 + h)) k from rfl]
      rcases h1.2 with w | w
      · rw [if_neg (fun q => q.2 w.1), w.2]
        exact ⟨Int.le_refl _, ih1⟩
      · rw [if_pos ⟨h1.1, w.1⟩]
        omega
    refine ⟨by omega, fun n hn => ?_⟩
    by_cases q : n = k
    · subst q
      exact key.2
    · have := ih2 n (by omega)
      omega
theorem md_le (hV : VL Z) (hM : MS Z M (h + 1)) (hh : h < 24) (hA : ∀ r : Nat, r < 330 → A r = ahF Z M h r) (hE : ∀ r : Nat, r < 31 → E r = eaF Z h r) (hl : 0 ≤ lev ∧ lev ≤ 200) {b : Int} (hb : NOP ≤ b) (hf : ∀ n : Nat, (n : Int) ≤ Z 1 → fv NOP Z (23 - h) h lev (n : Int) ≤ b) : ∀ k : Nat, (k : Int) ≤ max 0 (min (Z 1) (lev + Z (34 + h) - Z 5)) → mdF Z A E (lev + Z (34 + h)) k ≤ b
  | 0, _ => hb
  | k + 1, hk => by
    have ih := md_le hV hM hh hA hE hl hb hf k (by omega)
    have h2 := hf (k + 1) (by omega)
    unfold mdF
    split
    · rename_i q
      have h1 := md_fv hV hM hh hA hE hl (d := k + 1) (by omega) (by omega) q.1
      rcases h1.2 with w | w
      · exact absurd w.1 q.2.2
      · omega
    · exact ih
theorem md_ge (hV : VL Z) (hM : MS Z M (h + 1)) (hh : h < 24) (hA : ∀ r : Nat, r < 330 → A r = ahF Z M h r) (hE : ∀ r : Nat, r < 31 → E r = eaF Z h r) (hl : 0 ≤ lev ∧ lev ≤ 200) : ∀ k : Nat, (k : Int) ≤ max 0 (min (Z 1) (lev + Z (34 + h) - Z 5)) → NOP ≤ mdF Z A E (lev + Z (34 + h)) k ∧ ∀ n : Nat, n ≤ k → Z 4 < (n : Int) → fv NOP Z (23 - h) h lev (n : Int) ≤ mdF Z A E (lev + Z (34 + h)) k
  | 0, _ => ⟨Int.le_refl _, fun n hn q => by
      have hs := hV.1
      unfold VS at hs
      omega⟩
  | k + 1, hk => by
    obtain ⟨ih1, ih2⟩ := md_ge hV hM hh hA hE hl k (by omega)
    have e : mdF Z A E (lev + Z (34 + h)) (k + 1) = if Z 4 < ((k + 1 : Nat) : Int) ∧ (0 ≤ lev + Z (34 + h) - ((k + 1 : Nat) : Int) ∧ lev + Z (34 + h) - ((k + 1 : Nat) : Int) ≤ 329) ∧ A (lev + Z (34 + h) - ((k + 1 : Nat) : Int)).toNat ≠ -1000000000 then max (mdF Z A E (lev + Z (34 + h)) k) (A (lev + Z (34 + h) - ((k + 1 : Nat) : Int)).toNat + E (k + 1)) else mdF Z A E (lev + Z (34 + h)) k := rfl
    have key : mdF Z A E (lev + Z (34 + h)) k ≤ mdF Z A E (lev + Z (34 + h)) (k + 1) ∧ (Z 4 < ((k + 1 : Nat) : Int) → fv NOP Z (23 - h) h lev ((k + 1 : Nat) : Int) ≤ mdF Z A E (lev + Z (34 + h)) (k + 1)) := by
      rw [e]
      by_cases q : Z 4 < ((k + 1 : Nat) : Int)
      · have h1 := md_fv hV hM hh hA hE hl (d := k + 1) (by omega) (by omega) q
        rcases h1.2 with w | w
        · rw [if_neg (fun z => z.2.2 w.1), w.2]
          exact ⟨Int.le_refl _, fun _ => ih1⟩
        · rw [if_pos ⟨q, h1.1, w.1⟩]
          refine ⟨by omega, fun _ => by omega⟩
      · rw [if_neg (fun z => q z.1)]
        exact ⟨Int.le_refl _, fun z => absurd z q⟩
    refine ⟨by omega, fun n hn q => ?_⟩
    by_cases w : n = k + 1
    · subst w
      exact key.2 q
    · have := ih2 n (by omega) q
      omega
/-- an hour's row, out of the rows of the hour behind it -/
theorem row_eq (hV : VL Z) (hM : MS Z M (h + 1)) (hh : h < 24) (hA : ∀ r : Nat, r < 330 → A r = ahF Z M h r) (hE : ∀ r : Nat, r < 31 → E r = eaF Z h r) (hI : ∀ r : Nat, r < 330 → I r = idF Z A E r) (hG : ∀ r : Nat, r < 31 → G r = gaF Z r) (hl : 0 ≤ lev ∧ lev ≤ 200) : max (mpF I G (lev + Z (34 + h)) (Z (10 + h)) (Z 0 + 1).toNat) (mdF Z A E (lev + Z (34 + h)) (min (Z 1) (lev + Z (34 + h) - Z 5)).toNat) = bv NOP Z (24 - h) lev := by
  have hs := hV.1
  unfold VS at hs
  have hin := (hV.2.1 h hh).2.1
  rw [show 24 - h = (23 - h) + 1 by omega, bv_s, show 23 - (23 - h) = h by omega]
  have z := zmax_ge (N := NOP) (f := fun u => fv NOP Z (23 - h) h lev u) (a := -(Z 0)) (Z 0 + Z 1 + 1).toNat
  have hall : ∀ u : Int, -(Z 0) ≤ u → u ≤ Z 1 → fv NOP Z (23 - h) h lev u ≤ zmax NOP (fun u => fv NOP Z (23 - h) h lev u) (-(Z 0)) (Z 0 + Z 1 + 1).toNat := fun u h1 h2 => by
    have := z.2 (u + Z 0).toNat (by omega)
    rw [show -(Z 0) + (((u + Z 0).toNat : Nat) : Int) = u by omega] at this
    exact this
  have a1 := mp_le hV hM hh hA hE hI hG hl z.1 (fun n hn => hall (-(n : Int)) (by omega) (by omega)) (Z 0 + 1).toNat (by omega)
  have a2 := md_le hV hM hh hA hE hl z.1 (fun n hn => hall (n : Int) (by omega) hn) (min (Z 1) (lev + Z (34 + h) - Z 5)).toNat (by omega)
  have b1 := mp_ge hV hM hh hA hE hI hG hl (Z 0 + 1).toNat (by omega)
  have b2 := md_ge hV hM hh hA hE hl (min (Z 1) (lev + Z (34 + h) - Z 5)).toNat (by omega)
  have hf0 : lk_fill Z h lev 0 = lev + Z (34 + h) := by unfold lk_fill lk_loss; omega
  have c := zmax_le (N := NOP) (f := fun u => fv NOP Z (23 - h) h lev u) (a := -(Z 0)) (b := max (mpF I G (lev + Z (34 + h)) (Z (10 + h)) (Z 0 + 1).toNat) (mdF Z A E (lev + Z (34 + h)) (min (Z 1) (lev + Z (34 + h) - Z 5)).toNat)) (Z 0 + Z 1 + 1).toNat (by omega) (fun j hj => by
    show fv NOP Z (23 - h) h lev (-(Z 0) + (j : Int)) ≤ _
    generalize hu : -(Z 0) + (j : Int) = u
    by_cases q1 : u ≤ 0
    · have := b1.2 (-u).toNat (by omega)
      rw [show -(((-u).toNat : Nat) : Int) = u by omega] at this
      omega
    · have p0 : lk_pump u = lk_pump 0 := by unfold lk_pump; omega
      have p1 : lk_pump 0 = 0 := by unfold lk_pump; omega
      have hz : fv NOP Z (23 - h) h lev 0 ≤ mpF I G (lev + Z (34 + h)) (Z (10 + h)) (Z 0 + 1).toNat := by
        have := b1.2 0 (by omega)
        exact this
      by_cases q2 : hr_dn Z h lev u = hr_dn Z h lev 0
      · rw [fv_cong p0 q2]
        omega
      · have d1 : hr_dn Z h lev u = max 0 (min (max (Z 4) u) (lev + Z (34 + h) - Z 5)) := by unfold hr_dn lk_down lk_want; rw [p0, p1, hf0]
        have d2 : hr_dn Z h lev 0 = max 0 (min (Z 4) (lev + Z (34 + h) - Z 5)) := by unfold hr_dn lk_down lk_want; rw [p1, hf0]; omega
        -- what is let down is more than FLOW, and can be had as it is
        have g1 : Z 4 < hr_dn Z h lev u := by omega
        have g2 : hr_dn Z h lev u ≤ u := by omega
        have g3 : hr_dn Z h lev u ≤ lev + Z (34 + h) - Z 5 := by omega
        have d3 : hr_dn Z h lev (hr_dn Z h lev u) = hr_dn Z h lev u := by
          have p2 : lk_pump (hr_dn Z h lev u) = 0 := by unfold lk_pump; omega
          have e : hr_dn Z h lev (hr_dn Z h lev u) = max 0 (min (max (Z 4) (hr_dn Z h lev u)) (lev + Z (34 + h) - Z 5)) := by
            rw [show hr_dn Z h lev (hr_dn Z h lev u) = lk_down Z (lk_fill Z h lev (lk_pump (hr_dn Z h lev u))) (lk_want Z (hr_dn Z h lev u)) from rfl, p2, hf0]
            rfl
          omega
        have p3 : lk_pump u = lk_pump (hr_dn Z h lev u) := by unfold lk_pump; omega
        rw [fv_cong p3 d3.symm]
        have := b2.2 (hr_dn Z h lev u).toNat (by omega) (by omega)
        rw [show (((hr_dn Z h lev u).toNat : Nat) : Int) = hr_dn Z h lev u by omega] at this
        omega)
  omega
end SR
/-! the best plan itself -/
def zfirst (f : Int → Int) (goal : Int) : Int → Nat → Int
  | a, 0 => a
  | a, k + 1 => if f a = goal then a else zfirst f goal (a + 1) k
/-- the levels ahead of the hours by the best plan, and the plan -/
def bl (N : Int) (Z : Nat → Int) : Nat → Int
  | 0 => Z 7
  | h + 1 => lk_behind Z h (bl N Z h) (zfirst (fv N Z (23 - h) h (bl N Z h)) (bv N Z (24 - h) (bl N Z h)) (-(Z 0)) (Z 0 + Z 1).toNat)
def bp (N : Int) (Z : Nat → Int) (h : Nat) : Int := zfirst (fv N Z (23 - h) h (bl N Z h)) (bv N Z (24 - h) (bl N Z h)) (-(Z 0)) (Z 0 + Z 1).toNat
theorem bl_s (N : Int) (Z : Nat → Int) (h : Nat) : bl N Z (h + 1) = lk_behind Z h (bl N Z h) (bp N Z h) := rfl
theorem zfirst_at {f : Int → Int} {goal : Int} : ∀ (k : Nat) (a : Int), (∃ j : Nat, j ≤ k ∧ f (a + (j : Int)) = goal) → f (zfirst f goal a k) = goal ∧ a ≤ zfirst f goal a k ∧ zfirst f goal a k ≤ a + (k : Int)
  | 0, a, ⟨j, hj, h⟩ => by
    rw [show j = 0 by omega] at h
    unfold zfirst
    exact ⟨by rw [show a = a + ((0 : Nat) : Int) by omega]; exact h, by omega, by omega⟩
  | k + 1, a, ⟨j, hj, h⟩ => by
    unfold zfirst
    split
    · rename_i q
      exact ⟨q, by omega, by omega⟩
    · rename_i q
      have h0 : j ≠ 0 := fun e => q (by rw [e] at h; rw [show a = a + ((0 : Nat) : Int) by omega]; exact h)
      have ih := zfirst_at (f := f) (goal := goal) k (a + 1) ⟨j - 1, by omega, by rw [show a + 1 + ((j - 1 : Nat) : Int) = a + (j : Int) by omega, h]⟩
      exact ⟨ih.1, by omega, by omega⟩
theorem zfirst_cong {f g : Int → Int} {p q : Int} : ∀ (k : Nat) (a : Int), (∀ u : Int, a ≤ u → u < a + (k : Int) → (f u = p ↔ g u = q)) → zfirst f p a k = zfirst g q a k
  | 0, a, _ => rfl
  | k + 1, a, h => by
    have h0 := h a (by omega) (by omega)
    have ih := zfirst_cong (f := f) (g := g) (p := p) (q := q) k (a + 1) (fun u h1 h2 => h u (by omega) (by omega))
    unfold zfirst
    by_cases w : f a = p
    · rw [if_pos w, if_pos (h0.mp w)]
    · rw [if_neg w, if_neg (mt h0.mpr w), ih]
theorem lwF_eq {Z : Nat → Int} {M : Nat → Nat → Int} {A E : Nat → Int} {h : Nat} (hV : VL Z) (hM : MS Z M (h + 1)) (hh : h < 24) (hA : ∀ r : Nat, r < 330 → A r = ahF Z M h r) (hE : ∀ r : Nat, r < 31 → E r = eaF Z h r) {lev goal : Int} (hl : 0 ≤ lev ∧ lev ≤ 200) (hg : goal ≠ NOP) : ∀ (k : Nat) (u : Int), -30 ≤ u → u + (k : Int) ≤ 30 → lwF Z A E h lev goal u k = zfirst (fv NOP Z (23 - h) h lev) goal u k
  | 0, u, _, _ => rfl
  | k + 1, u, h1, h2 => by
    have ih := lwF_eq hV hM hh hA hE hl hg k (u + 1) (by omega) (by omega)
    have e := lvF_fv hV hM hh hA hE hl (u := u) (by omega) hg
    unfold lwF zfirst
    by_cases w : fv NOP Z (23 - h) h lev u = goal
    · rw [if_pos (e.mpr w), if_pos w]
    · rw [if_neg (mt e.mp w), if_neg w, ih]
/-- along the best plan, END can still be reached -/
theorem bp_ok {Z : Nat → Int} (hV : VL Z) {N : Int} (hN : N ≤ -100000000) (h0 : bv N Z 24 (Z 7) ≠ N) : ∀ h : Nat, h ≤ 24 → (0 ≤ bl N Z h ∧ bl N Z h ≤ 200 ∧ (0 < h → bl N Z h ≤ Z 6)) ∧ bv N Z (24 - h) (bl N Z h) ≠ N ∧ (h < 24 → (-(Z 0) ≤ bp N Z h ∧ bp N Z h ≤ Z 1) ∧ fv N Z (23 - h) h (bl N Z h) (bp N Z h) = bv N Z (24 - h) (bl N Z h)) := by
  have hs := hV.1
  unfold VS at hs
  have key : ∀ h : Nat, h < 24 → (0 ≤ bl N Z h) → bv N Z (24 - h) (bl N Z h) ≠ N → (-(Z 0) ≤ bp N Z h ∧ bp N Z h ≤ Z 1) ∧ fv N Z (23 - h) h (bl N Z h) (bp N Z h) = bv N Z (24 - h) (bl N Z h) := fun h hh hl hb => by
    have e : bv N Z (24 - h) (bl N Z h) = zmax N (fun u => fv N Z (23 - h) h (bl N Z h) u) (-(Z 0)) (Z 0 + Z 1 + 1).toNat := by
      rw [show 24 - h = (23 - h) + 1 by omega, bv_s, show 23 - (23 - h) = h by omega]
    rcases zmax_at (N := N) (f := fun u => fv N Z (23 - h) h (bl N Z h) u) (a := -(Z 0)) (Z 0 + Z 1 + 1).toNat with w | ⟨j, hj, w⟩
    · exact absurd (e.trans w) hb
    · have z := zfirst_at (f := fv N Z (23 - h) h (bl N Z h)) (goal := bv N Z (24 - h) (bl N Z h)) (Z 0 + Z 1).toNat (-(Z 0)) ⟨j, by omega, (e.trans w).symm⟩
      exact ⟨⟨z.2.1, by have := z.2.2; unfold bp; omega⟩, z.1⟩
  intro h
  induction h with
  | zero =>
    intro _
    have a1 : bl N Z 0 = Z 7 := rfl
    refine ⟨⟨by omega, by omega, fun q => by omega⟩, h0, fun _ => key 0 (by omega) (by omega) h0⟩
  | succ h ih =>
    intro hh
    obtain ⟨i1, i2, i3⟩ := ih (by omega)
    obtain ⟨k1, k2⟩ := i3 (by omega)
    have hb := lk_behind_rng hV (show h < 24 by omega) (lev := bl N Z h) (u := bp N Z h) i1.1 (by omega)
    rw [← bl_s] at hb
    have hne : bv N Z (24 - (h + 1)) (bl N Z (h + 1)) ≠ N := fun q => by
      apply i2
      rw [← k2]
      unfold fv gn
      rw [← bl_s, show 23 - h = 24 - (h + 1) by omega, if_pos q]
    exact ⟨⟨hb.1, by omega, fun _ => hb.2⟩, hne, fun w => key (h + 1) w hb.1 hne⟩
/-- the rows of the search, its plan, and whether there is one -/
def SOL (Z : Nat → Int) (M : Nat → Nat → Int) (P : Nat → Int) (fo : Int) : Prop := MS Z M 0 ∧ fo = (if bv NOP Z 24 (Z 7) = NOP then 0 else 1) ∧ (bv NOP Z 24 (Z 7) ≠ NOP → ∀ h : Nat, h < 24 → P h = bp NOP Z h)
theorem gup_gup (M : Nat → Nat → Int) (k : Nat) (F G : Nat → Int) : gup (gup M k F) k G = gup M k G := by
  funext j
  unfold gup
  split <;> rfl
theorem gup_zmix {M : Nat → Nat → Int} {k n : Nat} {d F : Nat → Int} {v : Int} (h : v = d n) : gup (gup M k (zmix n d F)) k (zup (gup M k (zmix n d F) k) n v) = gup M k (zmix (n + 1) d F) := by rw [gup_s, zmix_s h, gup_gup]
theorem gup_zmix0 (M : Nat → Nat → Int) (k : Nat) (d : Nat → Int) : M = gup M k (zmix 0 d (M k)) := by rw [← zmix_0, gup_id]
def rwF (Z : Nat → Int) (k : Nat) (F : Nat → Int) : Nat → Int := zmix ((if k = 0 then 200 else min (Z 6) 200) + 1 : Int).toNat (fun l => bv NOP Z (24 - k) (l : Int)) F
theorem MS.row {Z : Nat → Int} {M : Nat → Nat → Int} {k : Nat} (hM : MS Z M (k + 1)) (hk : k < 24) : MS Z (gup M k (rwF Z k (M k))) k := by
  intro h h1 h2 l h3 h4
  by_cases e : h = k
  · subst e
    rw [gup_s]
    unfold rwF
    rw [zmix_in]
    rcases h4 with h4 | h4 | h4
    · rw [if_pos h4]; omega
    · omega
    · split <;> omega
  · rw [gup_n e]
    exact hM h (by omega) h2 l h3 h4
theorem MS.last {Z : Nat → Int} {M : Nat → Nat → Int} {F : Nat → Int} : MS Z (gup M 24 (zmix 201 (fun l : Nat => bv NOP Z 0 (l : Int)) F)) 24 := fun h h1 h2 l hl _ => by
  have e : h = 24 := by omega
  subst e
  exact (congrFun (gup_s _ _ _) l).trans (zmix_in (by omega))
