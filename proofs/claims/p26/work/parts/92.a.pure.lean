/-! what the law's checks rest on -/
theorem pf_gain {Z : Nat → Int} (hV : VL Z) {a b : Int} (h : a ≤ b) : a - lk_loss Z a ≤ b - lk_loss Z b := by
  obtain ⟨⟨-, -, v2, -⟩, -, -⟩ := hV
  have h1 := zmul (a := b - a) (b := Z 2) (A := b - a) (B := 100) ⟨by omega, Int.le_refl _⟩ v2
  have e : b * Z 2 = a * Z 2 + (b - a) * Z 2 := by rw [← Int.add_mul, show a + (b - a) = b by omega]
  unfold lk_loss
  rw [e]
  generalize a * Z 2 = q
  generalize (b - a) * Z 2 = k at h1 ⊢
  omega
theorem pf_beh2 {Z : Nat → Int} {f g w v : Int} (hf : f ≤ g) (hw : v ≤ w) : lk_beh2 Z f w ≤ lk_beh2 Z g v := by
  unfold lk_beh2 lk_spill lk_down
  omega
theorem pf_behind {Z : Nat → Int} (hV : VL Z) {h : Nat} {lev lev' u : Int} (hl : lev ≤ lev') (hu : -(Z 0) ≤ u) : lk_behind Z h lev u ≤ lk_behind Z h lev' (-(Z 0)) := by
  have h1 := pf_gain hV (a := lk_pump u) (b := lk_pump (-(Z 0))) (by unfold lk_pump; omega)
  unfold lk_behind
  refine pf_beh2 ?_ ?_
  · unfold lk_fill
    omega
  · unfold lk_want
    omega
theorem pf_top {Z : Nat → Int} (hV : VL Z) : ∀ n : Nat, n ≤ 24 → dy_lev Z n ≤ lk_top Z n
  | 0, _ => Int.le_refl _
  | n + 1, hn => by
    have ih := pf_top hV n (by omega)
    have h1 := (hV.2.1 n (by omega)).2.2.1
    exact pf_behind hV ih h1
/-- the level in the end if from level l on, r hours ahead of it, all that can be is pumped -/
def pf_tp (Z : Nat → Int) : Nat → Int → Int
  | 0, l => l
  | r + 1, l => pf_tp Z r (lk_behind Z (23 - r) l (-(Z 0)))
theorem pf_tp_mono {Z : Nat → Int} (hV : VL Z) : ∀ (r : Nat) (l m : Int), l ≤ m → pf_tp Z r l ≤ pf_tp Z r m
  | 0, _, _, h => h
  | r + 1, l, m, h => pf_tp_mono hV r _ _ (pf_behind hV h (Int.le_refl _))
theorem pf_tp_top {Z : Nat → Int} : ∀ n : Nat, n ≤ 24 → pf_tp Z (24 - n) (lk_top Z n) = pf_tp Z 24 (Z 7)
  | 0, _ => rfl
  | n + 1, hn => by
    have ih := pf_tp_top (Z := Z) n (by omega)
    rw [← ih, show 24 - n = (24 - (n + 1)) + 1 by omega]
    show _ = pf_tp Z (24 - (n + 1)) (lk_behind Z (23 - (24 - (n + 1))) (lk_top Z n) (-(Z 0)))
    rw [show 23 - (24 - (n + 1)) = n by omega]
    rfl
theorem pf_bv {Z : Nat → Int} (hV : VL Z) : ∀ r : Nat, r ≤ 24 → ∀ l : Int, 0 ≤ l → (bv NOP Z r l ≠ NOP ↔ Z 8 ≤ pf_tp Z r l)
  | 0, _, l, _ => by
    unfold bv pf_tp
    have e : (0 : Int) ≠ NOP := by decide
    split
    · exact ⟨fun _ => by assumption, fun _ => e⟩
    · exact ⟨fun h => absurd rfl h, fun h => absurd h (by assumption)⟩
  | r + 1, hr, l, hl => by
    have hs := hV.1
    unfold VS at hs
    have hbh : ∀ u : Int, -30 ≤ u → u ≤ 30 → 0 ≤ lk_behind Z (23 - r) l u := fun u h1 h2 => (lk_behind_rng hV (show 23 - r < 24 by omega) hl ⟨h1, h2⟩).1
    rw [bv_s]
    constructor
    · intro h
      rcases zmax_at (N := NOP) (f := fun u => fv NOP Z r (23 - r) l u) (a := -(Z 0)) (Z 0 + Z 1 + 1).toNat with h1 | ⟨j, hj, h1⟩
      · exact absurd h1 h
      · have hu : -30 ≤ -(Z 0) + (j : Int) ∧ -(Z 0) + (j : Int) ≤ 30 := by omega
        have h2 : bv NOP Z r (lk_behind Z (23 - r) l (-(Z 0) + (j : Int))) ≠ NOP := fun q => h (by
          rw [h1]
          show gn NOP (bv NOP Z r (lk_behind Z (23 - r) l (-(Z 0) + (j : Int)))) _ = NOP
          unfold gn
          rw [if_pos q])
        have h3 := (pf_bv hV r (by omega) _ (hbh _ hu.1 hu.2)).mp h2
        have h4 := pf_tp_mono hV r _ _ (pf_behind hV (h := 23 - r) (Int.le_refl l) (show -(Z 0) ≤ -(Z 0) + (j : Int) by omega))
        exact Int.le_trans h3 h4
    · intro h
      have h2 := (pf_bv hV r (by omega) _ (hbh (-(Z 0)) (by omega) (by omega))).mpr h
      have h3 := bv_rng hV NOP_le r (by omega) _ (hbh (-(Z 0)) (by omega) (by omega))
      have h4 := hr_mo_rng hV (show 23 - r < 24 by omega) l (u := -(Z 0)) (by omega)
      have h5 := (zmax_ge (N := NOP) (f := fun u => fv NOP Z r (23 - r) l u) (a := -(Z 0)) (Z 0 + Z 1 + 1).toNat).2 0 (by omega)
      have h6 : fv NOP Z r (23 - r) l (-(Z 0) + ((0 : Nat) : Int)) = bv NOP Z r (lk_behind Z (23 - r) l (-(Z 0))) + hr_mo Z (23 - r) l (-(Z 0)) := by
        rw [show -(Z 0) + ((0 : Nat) : Int) = -(Z 0) by omega]
        exact if_neg h2
      have h7 : NOP = -1000000000 := rfl
      intro q
      rw [q] at h5
      have h8 : fv NOP Z r (23 - r) l (-(Z 0) + ((0 : Nat) : Int)) ≤ NOP := h5
      rw [h6] at h8
      rcases h3 with h3 | h3
      · exact h2 h3
      · omega
/-- no plan of the day that ends well has more money than the best one -/
theorem pf_val {Z : Nat → Int} (hV : VL Z) (h8 : Z 8 ≤ dy_lev Z 24) : ∀ r : Nat, r ≤ 24 → bv NOP Z r (dy_lev Z (24 - r)) ≠ NOP ∧ zsum (dy_mo Z) 24 - zsum (dy_mo Z) (24 - r) ≤ bv NOP Z r (dy_lev Z (24 - r))
  | 0, _ => by
    have e : bv NOP Z 0 (dy_lev Z (24 - 0)) = 0 := if_pos h8
    rw [e]
    exact ⟨by decide, Int.le_of_eq (Int.sub_self _)⟩
  | r + 1, hr => by
    obtain ⟨i1, i2⟩ := pf_val hV h8 r (by omega)
    have hs := hV.1
    unfold VS at hs
    have hp := (hV.2.1 (23 - r) (by omega)).2.2
    have hl := dy_lev_rng hV (23 - r) (by omega)
    have e1 : 24 - r = (23 - r) + 1 := by omega
    have e2 : 24 - (r + 1) = 23 - r := by omega
    rw [e1] at i1 i2
    rw [e2, bv_s]
    have h5 := (zmax_ge (N := NOP) (f := fun u => fv NOP Z r (23 - r) (dy_lev Z (23 - r)) u) (a := -(Z 0)) (Z 0 + Z 1 + 1).toNat).2 (Z (58 + (23 - r)) + Z 0).toNat (by omega)
    have e3 : -(Z 0) + (((Z (58 + (23 - r)) + Z 0).toNat : Nat) : Int) = Z (58 + (23 - r)) := by omega
    rw [e3] at h5
    have h6 : fv NOP Z r (23 - r) (dy_lev Z (23 - r)) (Z (58 + (23 - r))) = bv NOP Z r (dy_lev Z ((23 - r) + 1)) + dy_mo Z (23 - r) := if_neg i1
    rw [h6] at h5
    have h7 : zsum (dy_mo Z) ((23 - r) + 1) = zsum (dy_mo Z) (23 - r) + dy_mo Z (23 - r) := rfl
    have h3 := bv_rng hV NOP_le r (by omega) _ (dy_lev_rng hV ((23 - r) + 1) (by omega)).1
    have h4 := hr_mo_rng hV (show 23 - r < 24 by omega) (dy_lev Z (23 - r)) (u := Z (58 + (23 - r))) (by omega)
    have h9 : NOP = -1000000000 := rfl
    have h10 : -111000 ≤ dy_mo Z (23 - r) := h4.1
    refine ⟨fun q => ?_, by omega⟩
    rw [q] at h5
    rcases h3 with h3 | h3
    · exact i1 h3
    · omega
/-- each contract is missed once at most -/
theorem pf_one {P : Nat → Prop} [DecidablePred P] {a : Int} : ∀ m : Nat, 0 ≤ zsum (fun h => if a = (h : Int) ∧ P h then 1 else 0) m ∧ zsum (fun h => if a = (h : Int) ∧ P h then 1 else 0) m ≤ (if 0 ≤ a ∧ a < (m : Int) then 1 else 0)
  | 0 => by
    unfold zsum
    split <;> omega
  | m + 1 => by
    have ih := pf_one (P := P) (a := a) m
    unfold zsum
    by_cases q : a = (m : Int)
    · rw [if_neg (by omega)] at ih
      rw [if_pos (show 0 ≤ a ∧ a < ((m + 1 : Nat) : Int) by omega)]
      split <;> omega
    · rw [if_neg (fun w => q w.1)]
      by_cases w : 0 ≤ a ∧ a < (m : Int)
      · rw [if_pos w] at ih
        rw [if_pos (by omega)]
        omega
      · rw [if_neg w] at ih
        rw [if_neg (by omega)]
        omega
theorem pf_add {f g : Nat → Int} : ∀ n : Nat, zsum (fun h => f h + g h) n = zsum f n + zsum g n
  | 0 => rfl
  | n + 1 => by
    have ih := pf_add (f := f) (g := g) n
    unfold zsum
    rw [ih]
    omega
theorem pf_miss {Z d : Nat → Int} : ∀ n : Nat, 0 ≤ zsum (fun h => lk_miss Z h (d h) n) 24 ∧ zsum (fun h => lk_miss Z h (d h) n) 24 ≤ (n : Int)
  | 0 => by
    have e : zsum (fun h => lk_miss Z h (d h) 0) 24 = 0 := by
      have q : ∀ m : Nat, zsum (fun h => lk_miss Z h (d h) 0) m = 0 := fun m => by
        induction m with
        | zero => rfl
        | succ m ih => unfold zsum; rw [ih]; rfl
      exact q 24
    rw [e]
    omega
  | n + 1 => by
    have ih := pf_miss (Z := Z) (d := d) n
    have h1 := pf_one (P := fun h => d h < Z (82 + n * 4 + 1)) (a := Z (82 + n * 4 + 0)) 24
    have e : zsum (fun h => lk_miss Z h (d h) (n + 1)) 24 = zsum (fun h => lk_miss Z h (d h) n) 24 + zsum (fun h => if Z (82 + n * 4 + 0) = (h : Int) ∧ d h < Z (82 + n * 4 + 1) then 1 else 0) 24 := pf_add 24
    rw [e]
    have h2 : zsum (fun h => if Z (82 + n * 4 + 0) = (h : Int) ∧ d h < Z (82 + n * 4 + 1) then 1 else 0) 24 ≤ 1 := Int.le_trans h1.2 (by split <;> omega)
    have h3 := h1.1
    omega
/-- the hours in which something was spilled, as the law keeps them; the latest is the highest bit -/
def pf_sb (Z : Nat → Int) : Nat → Nat
  | 0 => 0
  | n + 1 => if 0 < dy_sp Z n then pf_sb Z n + 2 ^ n else pf_sb Z n
theorem pf_sb_rng {Z : Nat → Int} : ∀ n : Nat, pf_sb Z n < 2 ^ n ∧ (dy_ls Z n = -6 ∧ pf_sb Z n = 0 ∨ ∃ c : Nat, dy_ls Z n = (c : Int) ∧ c < n ∧ 2 ^ c ≤ pf_sb Z n ∧ pf_sb Z n < 2 ^ (c + 1))
  | 0 => ⟨Nat.zero_lt_one, Or.inl ⟨rfl, rfl⟩⟩
  | n + 1 => by
    obtain ⟨h1, h2⟩ := pf_sb_rng (Z := Z) n
    unfold pf_sb dy_ls
    by_cases q : 0 < dy_sp Z n
    · rw [if_pos q, if_pos q]
      have e : 2 ^ (n + 1) = 2 ^ n + 2 ^ n := by rw [Nat.pow_succ]; omega
      refine ⟨by omega, Or.inr ⟨n, rfl, by omega, by omega, by omega⟩⟩
    · rw [if_neg q, if_neg q]
      have e : 2 ^ (n + 1) = 2 ^ n + 2 ^ n := by rw [Nat.pow_succ]; omega
      refine ⟨by omega, ?_⟩
      rcases h2 with h2 | ⟨c, a, b, d, f⟩
      · exact Or.inl h2
      · exact Or.inr ⟨c, a, by omega, d, f⟩
theorem pf_sb_top {x c : Nat} (h : 2 ^ c ≤ x ∧ x < 2 ^ (c + 1)) : x / 2 ^ c = 1 := by
  have e : 2 ^ (c + 1) = 2 * 2 ^ c := by rw [Nat.pow_succ]; omega
  have hp : 0 < 2 ^ c := Nat.two_pow_pos c
  have h1 : 1 ≤ x / 2 ^ c := (Nat.one_le_div_iff hp).mpr h.1
  have h2 : x / 2 ^ c < 2 := Nat.div_lt_of_lt_mul (by omega)
  omega
theorem VL_115 {Y Z : Nat → Int} (h : ∀ k : Nat, k < 115 → Y k = Z k) (hV : VL Z) : VL Y := by
  obtain ⟨h1, h2, h3⟩ := hV
  have hs := h1
  unfold VS at hs
  refine ⟨?_, fun i hi => ?_, fun c hc => ?_⟩
  · unfold VS at h1 ⊢
    rw [h 0 (by omega), h 1 (by omega), h 2 (by omega), h 3 (by omega), h 4 (by omega), h 5 (by omega), h 6 (by omega), h 7 (by omega), h 8 (by omega), h 9 (by omega), h 114 (by omega)]
    exact h1
  · rw [h (10 + i) (by omega), h (34 + i) (by omega), h (58 + i) (by omega), h 0 (by omega), h 1 (by omega)]
    exact h2 i hi
  · rw [h 114 (by omega)] at hc
    rw [h (82 + c * 4 + 0) (by omega), h (82 + c * 4 + 1) (by omega), h (82 + c * 4 + 2) (by omega), h (82 + c * 4 + 3) (by omega)]
    exact h3 c hc
theorem VL_mix {Z F : Nat → Int} (hV : VL Z) : VL (zmix 115 Z F) := VL_115 (fun k hk => zmix_in hk) hV
/-- the kept states are states -/
def HV (G : Nat → Nat → Int) (asd len : Int) : Prop := ∀ i : Nat, 1 ≤ i → (i : Int) ≤ len → VL (G ((asd + 7 - (i : Int)) % 7).toNat)
theorem HV_0 (G : Nat → Nat → Int) (asd : Int) : HV G asd 0 := fun i h1 h2 => by omega
theorem HV.keep {G : Nat → Nat → Int} {asd len : Int} {X : Nat → Int} (h : HV G asd len) (ha : 0 ≤ asd ∧ asd < 7) (hl : 0 ≤ len ∧ len ≤ 6) : HV (gup G asd.toNat X) asd len := fun i h1 h2 => by
  have e : gup G asd.toNat X ((asd + 7 - (i : Int)) % 7).toNat = G ((asd + 7 - (i : Int)) % 7).toNat := gup_n (by omega)
  rw [e]
  exact h i h1 h2
theorem HV.rec {G : Nat → Nat → Int} {asd len : Int} {X : Nat → Int} (h : HV G asd len) (ha : 0 ≤ asd ∧ asd < 7) (hl : 0 ≤ len ∧ len ≤ 6) (hX : VL X) : HV (gup G asd.toNat X) ((asd + 1) % 7) (min (len + 1) 6) := fun i h1 h2 => by
  by_cases q : i = 1
  · subst q
    rw [show (((asd + 1) % 7 + 7 - ((1 : Nat) : Int)) % 7).toNat = asd.toNat by omega, gup_s]
    exact hX
  · obtain ⟨j, rfl⟩ : ∃ j : Nat, i = j + 1 := ⟨i - 1, by omega⟩
    have e : gup G asd.toNat X (((asd + 1) % 7 + 7 - ((j + 1 : Nat) : Int)) % 7).toNat = G ((asd + 7 - (j : Int)) % 7).toNat := by
      rw [show (((asd + 1) % 7 + 7 - ((j + 1 : Nat) : Int)) % 7).toNat = ((asd + 7 - (j : Int)) % 7).toNat by omega]
      exact gup_n (by omega)
    rw [e]
    exact h j (by omega) (by omega)
theorem HV.undo {G : Nat → Nat → Int} {asd len : Int} (h : HV G asd len) (ha : 0 ≤ asd ∧ asd < 7) (hl : 0 < len ∧ len ≤ 6) : VL (G ((asd + 6) % 7).toNat) ∧ HV G ((asd + 6) % 7) (len - 1) := by
  refine ⟨?_, fun i h1 h2 => ?_⟩
  · have := h 1 (by omega) (by omega)
    rw [show ((asd + 7 - ((1 : Nat) : Int)) % 7).toNat = ((asd + 6) % 7).toNat by omega] at this
    exact this
  · have := h (i + 1) (by omega) (by omega)
    rw [show ((asd + 7 - ((i + 1 : Nat) : Int)) % 7).toNat = (((asd + 6) % 7 + 7 - (i : Int)) % 7).toNat by omega] at this
    exact this
/-- what holds between two things that are done -/
def PV (Z : Nat → Int) (ve : Int) (M : Nat → Nat → Int) (P : Nat → Int) (fo sv : Int) (G : Nat → Nat → Int) (asd len : Int) : Prop := VL Z ∧ SI Z ve M P fo sv ∧ HV G asd len ∧ (0 ≤ asd ∧ asd < 7) ∧ (0 ≤ len ∧ len ≤ 6) ∧ 0 ≤ ve
/-- an error changes nothing -/
def AQ (Z Y : Nat → Int) (len ln z : Int) : Prop := (-100 ≤ z ∧ z ≤ 100000) ∧ (z < 0 → Y = Z ∧ ln = len)
section PA
variable {Z Y : Nat → Int} {ve vf : Int} {M : Nat → Nat → Int} {P : Nat → Int} {fo sv : Int} {G : Nat → Nat → Int} {asd len r : Int}
theorem pa_chg (h : PV Z ve M P fo sv G asd len) (hY : VL Y) (hsi : SI Y vf M P fo sv) (hr : -100 ≤ r ∧ r ≤ 100000) (he : r < 0 → Y = Z) (hv : ve ≤ vf ∧ vf ≤ ve + 1) :
    AQ Z Y len (if r < 0 then len else min (len + 1) 6) r ∧ PV Y vf M P fo sv (gup G asd.toNat (zmix 115 Z (G asd.toNat))) (if r < 0 then asd else (asd + 1) % 7) (if r < 0 then len else min (len + 1) 6) ∧ ve ≤ vf ∧ vf ≤ ve + 1 := by
  obtain ⟨h1, -, h3, h4, h5, h6⟩ := h
  by_cases q : r < 0
  · rw [if_pos q, if_pos q]
    exact ⟨⟨hr, fun w => ⟨he w, rfl⟩⟩, ⟨hY, hsi, h3.keep h4 h5, h4, h5, by omega⟩, hv⟩
  · rw [if_neg q, if_neg q]
    exact ⟨⟨hr, fun w => absurd w q⟩, ⟨hY, hsi, h3.rec h4 h5 (VL_mix h1), by omega, by omega, by omega⟩, hv⟩
theorem pe_at {off : Nat} {mx a b : Int} (h : ∀ k : Nat, k < 24 → 0 ≤ Z (off + k)) (q : lk_rAt off mx Z a b < 0) : lk_zAt off mx Z a b = Z := by
  unfold lk_rAt at q
  unfold lk_zAt
  by_cases w : 0 ≤ a ∧ a < 24
  · rw [if_pos w] at q
    by_cases v : 0 ≤ b ∧ b ≤ mx
    · rw [if_pos v] at q
      have := h a.toNat (by omega)
      omega
    · exact if_neg (fun u => v u.2)
  · exact if_neg (fun u => w u.1)
theorem lk_vAt_rng (mx a b ve : Int) : ve ≤ lk_vAt mx a b ve ∧ lk_vAt mx a b ve ≤ ve + 1 := by
  unfold lk_vAt
  split <;> omega
theorem lk_zAt_same {off : Nat} {mx : Int} {a b : Int} (h : lk_vAt mx a b ve = ve) : lk_zAt off mx Z a b = Z := by
  unfold lk_vAt at h
  unfold lk_zAt
  split at h
  · omega
  · rename_i q
    rw [if_neg q]
theorem lk_zPlan_same {a b : Int} : ∀ k : Nat, k < 58 ∨ 82 ≤ k → lk_zPlan Z a b k = Z k := by
  intro k hk
  unfold lk_zPlan
  split
  · exact zup_n (by omega)
  · rfl
theorem lk_vDrop_rng (Z : Nat → Int) (a ve : Int) : ve ≤ lk_vDrop Z a ve ∧ lk_vDrop Z a ve ≤ ve + 1 := by
  unfold lk_vDrop
  split <;> omega
theorem lk_zDrop_same {a : Int} (h : lk_vDrop Z a ve = ve) : lk_zDrop Z a = Z := by
  unfold lk_vDrop at h
  unfold lk_zDrop
  split at h
  · omega
  · rename_i q
    rw [if_neg q]
theorem lk_vSet_rng (Z : Nat → Int) (a b ve : Int) : ve ≤ lk_vSet Z a b ve ∧ lk_vSet Z a b ve ≤ ve + 1 := by
  unfold lk_vSet
  split <;> omega
theorem lk_zSet_same {a b : Int} (h : lk_vSet Z a b ve = ve) : lk_zSet Z a b = Z := by
  unfold lk_vSet at h
  unfold lk_zSet
  split at h
  · omega
  · rename_i q
    rw [if_neg q]
theorem lk_vCon_rng (Z : Nat → Int) (a b c d ve : Int) : ve ≤ lk_vCon Z a b c d ve ∧ lk_vCon Z a b c d ve ≤ ve + 1 := by
  unfold lk_vCon
  split <;> omega
theorem lk_con_same {a b c d : Int} (q : lk_vCon Z a b c d ve = ve) : lk_zCon Z a b c d = Z := by
  unfold lk_vCon at q
  unfold lk_zCon
  split at q
  · omega
  · rename_i w
    rw [if_neg w]
theorem pa_price (h : PV Z ve M P fo sv G asd len) (a b : Int) : AQ Z (lk_zAt 10 999 Z a b) len (if lk_rAt 10 999 Z a b < 0 then len else min (len + 1) 6) (lk_rAt 10 999 Z a b) ∧ PV (lk_zAt 10 999 Z a b) (lk_vAt 999 a b ve) M P fo sv (gup G asd.toNat (zmix 115 Z (G asd.toNat))) (if lk_rAt 10 999 Z a b < 0 then asd else (asd + 1) % 7) (if lk_rAt 10 999 Z a b < 0 then len else min (len + 1) 6) ∧ ve ≤ lk_vAt 999 a b ve ∧ lk_vAt 999 a b ve ≤ ve + 1 := by
  have hV := h.1
  have hr := lk_rPrice_rng hV a b
  have hv := lk_vAt_rng 999 a b ve
  exact pa_chg h (VL_zPrice hV _ _) (h.2.1.step hv.1 (fun q k _ => by rw [lk_zAt_same q])) (by omega) (fun q => pe_at (fun k hk => (hV.2.1 k hk).1.1) q) hv
theorem pa_inflow (h : PV Z ve M P fo sv G asd len) (a b : Int) : AQ Z (lk_zAt 34 99 Z a b) len (if lk_rAt 34 99 Z a b < 0 then len else min (len + 1) 6) (lk_rAt 34 99 Z a b) ∧ PV (lk_zAt 34 99 Z a b) (lk_vAt 99 a b ve) M P fo sv (gup G asd.toNat (zmix 115 Z (G asd.toNat))) (if lk_rAt 34 99 Z a b < 0 then asd else (asd + 1) % 7) (if lk_rAt 34 99 Z a b < 0 then len else min (len + 1) 6) ∧ ve ≤ lk_vAt 99 a b ve ∧ lk_vAt 99 a b ve ≤ ve + 1 := by
  have hV := h.1
  have hr := lk_rInflow_rng hV a b
  have hv := lk_vAt_rng 99 a b ve
  exact pa_chg h (VL_zInflow hV _ _) (h.2.1.step hv.1 (fun q k _ => by rw [lk_zAt_same q])) (by omega) (fun q => pe_at (fun k hk => (hV.2.1 k hk).2.1.1) q) hv
theorem pa_plan (h : PV Z ve M P fo sv G asd len) (a b : Int) : AQ Z (lk_zPlan Z a b) len (if lk_rPlan Z a b < 0 then len else min (len + 1) 6) (lk_rPlan Z a b) ∧ PV (lk_zPlan Z a b) ve M P fo sv (gup G asd.toNat (zmix 115 Z (G asd.toNat))) (if lk_rPlan Z a b < 0 then asd else (asd + 1) % 7) (if lk_rPlan Z a b < 0 then len else min (len + 1) 6) ∧ ve ≤ ve ∧ ve ≤ ve + 1 := by
  have hV := h.1
  have hs := hV.1
  unfold VS at hs
  have hr := lk_rPlan_rng hV a b
  refine pa_chg h (VL_zPlan hV _ _) (h.2.1.step (Int.le_refl _) (fun _ k hk => lk_zPlan_same k hk)) (by omega) (fun q => ?_) (by omega)
  unfold lk_rPlan at q
  unfold lk_zPlan
  by_cases w : 0 ≤ a ∧ a < 24
  · rw [if_pos w] at q
    by_cases v : -(Z 0) ≤ b ∧ b ≤ Z 1
    · rw [if_pos v] at q
      have := (hV.2.1 a.toNat (by omega)).2.2
      omega
    · exact if_neg (fun u => v u.2)
  · exact if_neg (fun u => w u.1)
theorem pa_con (h : PV Z ve M P fo sv G asd len) (a b c d : Int) : AQ Z (lk_zCon Z a b c d) len (if lk_rCon Z a b c d < 0 then len else min (len + 1) 6) (lk_rCon Z a b c d) ∧ PV (lk_zCon Z a b c d) (lk_vCon Z a b c d ve) M P fo sv (gup G asd.toNat (zmix 115 Z (G asd.toNat))) (if lk_rCon Z a b c d < 0 then asd else (asd + 1) % 7) (if lk_rCon Z a b c d < 0 then len else min (len + 1) 6) ∧ ve ≤ lk_vCon Z a b c d ve ∧ lk_vCon Z a b c d ve ≤ ve + 1 := by
  have hV := h.1
  have hs := hV.1
  unfold VS at hs
  have hr := lk_rCon_rng hV a b c d
  have hv := lk_vCon_rng Z a b c d ve
  refine pa_chg h (VL_zCon hV _ _ _ _) (h.2.1.step hv.1 (fun q k _ => by rw [lk_con_same q])) (by omega) (fun q => ?_) hv
  unfold lk_rCon at q
  unfold lk_zCon
  by_cases w : 0 ≤ a ∧ a < 24
  · rw [if_pos w] at q
    by_cases v : (1 ≤ b ∧ b ≤ 30) ∧ (0 ≤ c ∧ c ≤ 9999) ∧ (0 ≤ d ∧ d ≤ 9999)
    · rw [if_pos v] at q
      by_cases x : Z 114 < 8
      · rw [if_pos x] at q
        omega
      · exact if_neg (fun u => x u.2)
    · exact if_neg (fun u => v u.1.2)
  · exact if_neg (fun u => w u.1.1)
theorem pa_drop (h : PV Z ve M P fo sv G asd len) (a : Int) : AQ Z (lk_zDrop Z a) len (if lk_rDrop Z a < 0 then len else min (len + 1) 6) (lk_rDrop Z a) ∧ PV (lk_zDrop Z a) (lk_vDrop Z a ve) M P fo sv (gup G asd.toNat (zmix 115 Z (G asd.toNat))) (if lk_rDrop Z a < 0 then asd else (asd + 1) % 7) (if lk_rDrop Z a < 0 then len else min (len + 1) 6) ∧ ve ≤ lk_vDrop Z a ve ∧ lk_vDrop Z a ve ≤ ve + 1 := by
  have hV := h.1
  have hr := lk_rDrop_rng hV a
  have hv := lk_vDrop_rng Z a ve
  refine pa_chg h (VL_zDrop hV _) (h.2.1.step hv.1 (fun q k _ => by rw [lk_zDrop_same q])) (by omega) (fun q => ?_) hv
  unfold lk_rDrop at q
  unfold lk_zDrop
  by_cases w : 0 ≤ a ∧ a < Z 114
  · rw [if_pos w] at q
    omega
  · exact if_neg w
theorem pa_set (h : PV Z ve M P fo sv G asd len) (a b : Int) : AQ Z (lk_zSet Z a b) len (if lk_rSet Z a b < 0 then len else min (len + 1) 6) (lk_rSet Z a b) ∧ PV (lk_zSet Z a b) (lk_vSet Z a b ve) M P fo sv (gup G asd.toNat (zmix 115 Z (G asd.toNat))) (if lk_rSet Z a b < 0 then asd else (asd + 1) % 7) (if lk_rSet Z a b < 0 then len else min (len + 1) 6) ∧ ve ≤ lk_vSet Z a b ve ∧ lk_vSet Z a b ve ≤ ve + 1 := by
  have hV := h.1
  have hs := hV.1
  unfold VS at hs
  have hr := lk_rSet_rng hV a b
  have hv := lk_vSet_rng Z a b ve
  refine pa_chg h (VL_zSet hV _ _) (h.2.1.step hv.1 (fun q k _ => by rw [lk_zSet_same q])) (by omega) (fun q => ?_) hv
  unfold lk_rSet at q
  unfold lk_zSet
  by_cases w : (0 ≤ a ∧ a < 10) ∧ 0 ≤ b ∧ b ≤ mvF a.toNat
  · rw [if_pos w] at q
    by_cases v : lk_fb Z a b = true
    · rw [if_pos v] at q
      have e : a.toNat = 0 ∨ a.toNat = 1 ∨ a.toNat = 2 ∨ a.toNat = 3 ∨ a.toNat = 4 ∨ a.toNat = 5 ∨ a.toNat = 6 ∨ a.toNat = 7 ∨ a.toNat = 8 ∨ a.toNat = 9 := by omega
      rcases e with e | e | e | e | e | e | e | e | e | e <;> rw [e] at q <;> omega
    · exact if_neg (fun u => v u.2)
  · exact if_neg (fun u => w u.1)
theorem pa_undo (h : PV Z ve M P fo sv G asd len) : AQ Z (if len = 0 then Z else zmix 115 (G ((asd + 6) % 7).toNat) Z) len (if len = 0 then len else len - 1) (if len = 0 then -5 else len - 1) ∧ PV (if len = 0 then Z else zmix 115 (G ((asd + 6) % 7).toNat) Z) (if len = 0 then ve else ve + 1) M P fo sv G (if len = 0 then asd else (asd + 6) % 7) (if len = 0 then len else len - 1) ∧ ve ≤ (if len = 0 then ve else ve + 1) ∧ (if len = 0 then ve else ve + 1) ≤ ve + 1 := by
  obtain ⟨h1, h2, h3, h4, h5, h6⟩ := h
  by_cases q : len = 0
  · rw [if_pos q, if_pos q, if_pos q, if_pos q, if_pos q]
    exact ⟨⟨by omega, fun _ => ⟨rfl, rfl⟩⟩, ⟨h1, h2, h3, h4, h5, h6⟩, by omega, by omega⟩
  · rw [if_neg q, if_neg q, if_neg q, if_neg q, if_neg q]
    have hu := h3.undo h4 (by omega)
    exact ⟨⟨by omega, fun w => by omega⟩, ⟨VL_mix hu.1, h2.step (by omega) (fun w => by omega), hu.2, by omega, by omega, by omega⟩, by omega, by omega⟩
theorem pa_same (h : PV Z ve M P fo sv G asd len) : AQ Z Z len len 0 ∧ PV Z ve M P fo sv G asd len ∧ ve ≤ ve ∧ ve ≤ ve + 1 := ⟨⟨by omega, fun _ => ⟨rfl, rfl⟩⟩, h, by omega, by omega⟩
theorem pa_adopt {M' : Nat → Nat → Int} {P' : Nat → Int} {fo' : Int} (h : PV Z ve M P fo sv G asd len) (hS : SOL Y M' P' fo') (hY : VL Y) (he : Y = (if bv NOP Z 24 (Z 7) = NOP then Z else pl_ad Z 24)) : AQ Z Y len (if (if bv NOP Z 24 (Z 7) = NOP then -5 else ad_c Z 24) < 0 then len else min (len + 1) 6) (if bv NOP Z 24 (Z 7) = NOP then -5 else ad_c Z 24) ∧ PV Y ve M' P' fo' ve (gup G asd.toNat (zmix 115 Z (G asd.toNat))) (if (if bv NOP Z 24 (Z 7) = NOP then -5 else ad_c Z 24) < 0 then asd else (asd + 1) % 7) (if (if bv NOP Z 24 (Z 7) = NOP then -5 else ad_c Z 24) < 0 then len else min (len + 1) 6) ∧ ve ≤ ve ∧ ve ≤ ve + 1 := by
  have hc := ad_c_rng Z 24
  have hr : -5 ≤ (if bv NOP Z 24 (Z 7) = NOP then -5 else ad_c Z 24) ∧ (if bv NOP Z 24 (Z 7) = NOP then -5 else ad_c Z 24) ≤ 24 := by split <;> omega
  have he2 : (if bv NOP Z 24 (Z 7) = NOP then -5 else ad_c Z 24) < 0 → Y = Z := fun q => by
    rw [he]
    by_cases w : bv NOP Z 24 (Z 7) = NOP
    · rw [if_pos w]
    · rw [if_neg w] at q
      omega
  obtain ⟨h1, h2, h3, h4, h5, h6⟩ := h
  have hsi : SI Y ve M' P' fo' ve := ⟨⟨by omega, Int.le_refl _⟩, fun _ => hS⟩
  by_cases q : (if bv NOP Z 24 (Z 7) = NOP then -5 else ad_c Z 24) < 0
  · rw [if_pos q, if_pos q]
    exact ⟨⟨by omega, fun w => ⟨he2 w, rfl⟩⟩, ⟨hY, hsi, h3.keep h4 h5, h4, h5, h6⟩, by omega, by omega⟩
  · rw [if_neg q, if_neg q]
    exact ⟨⟨by omega, fun w => absurd w q⟩, ⟨hY, hsi, h3.rec h4 h5 (VL_mix h1), by omega, by omega, h6⟩, by omega, by omega⟩
end PA
/-! what is answered, at the questions that the law asks -/
section PN
variable {Z : Nat → Int} {np len : Int} {n : Nat}
theorem pn_hr (hn : n < 24) (b : Int) : pl_hour Z ((n : Nat) : Int) b = pl_hv Z n b := by
  unfold pl_hour
  rw [if_pos (by omega), show ((n : Nat) : Int).toNat = n by omega]
theorem ho1 (hn : n < 24) : pl_hour Z ((n : Nat) : Int) 1 = Z (34 + n) := (pn_hr hn 1).trans rfl
theorem ho2 (hn : n < 24) : pl_hour Z ((n : Nat) : Int) 2 = Z (58 + n) + 100 := (pn_hr hn 2).trans rfl
theorem ho3 (hn : n < 24) : pl_hour Z ((n : Nat) : Int) 3 = dy_dn Z n := (pn_hr hn 3).trans rfl
theorem ho4 (hn : n < 24) : pl_hour Z ((n : Nat) : Int) 4 = dy_pu Z n := (pn_hr hn 4).trans rfl
theorem ho5 (hn : n < 24) : pl_hour Z ((n : Nat) : Int) 5 = dy_lo Z n := (pn_hr hn 5).trans rfl
theorem ho6 (hn : n < 24) : pl_hour Z ((n : Nat) : Int) 6 = dy_sp Z n := (pn_hr hn 6).trans rfl
theorem ho7 (hn : n < 24) : pl_hour Z ((n : Nat) : Int) 7 = dy_le Z n := (pn_hr hn 7).trans rfl
theorem ho8 (hn : n < 24) : pl_hour Z ((n : Nat) : Int) 8 = dy_mo Z n + 1000000 := (pn_hr hn 8).trans rfl
theorem ho10 (hn : n < 24) : pl_hour Z ((n : Nat) : Int) 10 = dy_ca Z n := (pn_hr hn 10).trans rfl
theorem pf_hr : dy_le Z n = dy_lev Z n + Z (34 + n) + dy_pu Z n - dy_lo Z n - dy_dn Z n - dy_sp Z n := by
  unfold dy_le dy_sp dy_dn dy_pu dy_lo hr_lv
  unfold lk_fill
  omega
theorem pf_bal : ∀ n : Nat, Z 7 + zsum (fun h => Z (34 + h)) n + zsum (dy_pu Z) n = zsum (dy_lo Z) n + zsum (dy_dn Z) n + zsum (dy_sp Z) n + dy_lev Z n
  | 0 => by
    show Z 7 + 0 + 0 = 0 + 0 + 0 + Z 7
    omega
  | n + 1 => by
    have ih := pf_bal n
    have h := pf_hr (Z := Z) (n := n)
    show Z 7 + (zsum (fun h => Z (34 + h)) n + Z (34 + n)) + (zsum (dy_pu Z) n + dy_pu Z n) = (zsum (dy_lo Z) n + dy_lo Z n) + (zsum (dy_dn Z) n + dy_dn Z n) + (zsum (dy_sp Z) n + dy_sp Z n) + dy_le Z n
    omega
/-- what an hour keeps to -/
theorem pf_hour (hV : VL Z) (hn : n < 24) : (0 ≤ dy_le Z n ∧ dy_le Z n ≤ Z 6) ∧ (-(Z 0) ≤ Z (58 + n) ∧ Z (58 + n) ≤ Z 1) ∧ (dy_dn Z n = 0 ∨ Z 5 ≤ dy_le Z n + dy_sp Z n) ∧ (dy_sp Z n = 0 ∨ dy_le Z n = Z 6) ∧ (0 ≤ dy_lo Z n ∧ dy_lo Z n ≤ dy_pu Z n) ∧ (0 ≤ dy_dn Z n ∧ dy_dn Z n ≤ lk_want Z (Z (58 + n))) ∧ 0 ≤ dy_sp Z n := by
  have hl := dy_lev_rng hV n (by omega)
  have hp := hV.plan hn
  have h1 := lk_behind_rng hV hn hl.1 hp
  have h2 := lk_loss_rng hV (lk_pump_rng hp)
  have h3 := lk_want_rng hV hp
  have h4 := lk_down_rng Z (lk_fill Z n (dy_lev Z n) (lk_pump (Z (58 + n)))) (lk_want Z (Z (58 + n))) h3.1
  refine ⟨h1, (hV.2.1 n hn).2.2, ?_, ?_, h2, h4, ?_⟩
  · unfold dy_le dy_sp dy_dn hr_lv hr_sp hr_dn
    unfold lk_down
    omega
  · unfold dy_le dy_sp hr_lv hr_sp
    unfold lk_spill
    omega
  · unfold dy_sp hr_sp lk_spill
    omega
theorem pf_cause : dy_ca Z n = -6 ∨ ∃ c : Nat, dy_ca Z n = (c : Int) ∧ c < n ∧ 2 ^ c ≤ pf_sb Z n ∧ pf_sb Z n < 2 ^ (c + 1) := by
  have h := (pf_sb_rng (Z := Z) n).2
  unfold dy_ca
  split
  · rcases h with h | h
    · exact Or.inl h.1
    · exact Or.inr h
  · exact Or.inl rfl
theorem pf_sb_y (h : 0 < dy_sp Z n) : pf_sb Z n + 2 ^ n = pf_sb Z (n + 1) := (if_pos h).symm
theorem pf_sb_n (h : dy_sp Z n ≤ 0) : pf_sb Z n = pf_sb Z (n + 1) := (if_neg (by omega)).symm
theorem pf_high (hV : VL Z) : bv NOP Z 24 (Z 7) = NOP ↔ lk_top Z 24 < Z 8 := by
  have hs := hV.1
  unfold VS at hs
  have h := pf_bv hV 24 (Nat.le_refl _) (Z 7) (by omega)
  have h2 := pf_tp_top (Z := Z) 24 (Nat.le_refl _)
  have h3 : lk_top Z 24 = pf_tp Z 24 (Z 7) := h2
  rw [h3]
  constructor
  · intro q
    have h4 : ¬ Z 8 ≤ pf_tp Z 24 (Z 7) := fun w => h.mpr w q
    omega
  · intro q
    exact Decidable.byContradiction (fun w => by have := h.mp w; omega)
theorem pf_best (hV : VL Z) (h8 : Z 8 ≤ dy_le Z 23) : bv NOP Z 24 (Z 7) ≠ NOP ∧ zsum (dy_mo Z) 24 ≤ bv NOP Z 24 (Z 7) := by
  have h := pf_val hV (show Z 8 ≤ dy_lev Z 24 from h8) 24 (Nat.le_refl _)
  have e : dy_lev Z (24 - 24) = Z 7 := rfl
  have e2 : zsum (dy_mo Z) (24 - 24) = 0 := rfl
  rw [e, e2] at h
  exact ⟨h.1, by omega⟩
theorem pf_mis (hV : VL Z) : 0 ≤ zsum (fun h => lk_missed Z h (dy_dn Z h)) 24 ∧ zsum (fun h => lk_missed Z h (dy_dn Z h)) 24 ≤ Z 114 := by
  have hs := hV.1
  unfold VS at hs
  have h := pf_miss (Z := Z) (d := dy_dn Z) (Z 114).toNat
  have e : zsum (fun h => lk_missed Z h (dy_dn Z h)) 24 = zsum (fun h => lk_miss Z h (dy_dn Z h) (Z 114).toNat) 24 := rfl
  rw [e]
  omega
theorem pf_dn_sum (hV : VL Z) : -720 ≤ zsum (dy_dn Z) 24 ∧ zsum (dy_dn Z) 24 ≤ 720 := by
  have h := zsum_rng (f := dy_dn Z) (A := 30) 24 (fun j hj => by have := (dy_rng hV hj).1; omega)
  omega
end PN
theorem sb_bit (F : Nat → Int) (t : Int) : ∀ (n i : Nat), (sb F t n).testBit i = true → i < n ∧ F i = t
  | 0, i, h => by
    have e : sb F t 0 = 0 := rfl
    rw [e, Nat.zero_testBit] at h
    cases h
  | n + 1, i, h => by
    have hl := sb_lt F t n
    by_cases q : F n = t
    · rw [sb_y q] at h
      by_cases w : i = n
      · subst w
        exact ⟨by omega, q⟩
      · have e : (sb F t n + 2 ^ n).testBit i = (sb F t n).testBit i ∨ n < i := by
          by_cases v : i < n
          · refine Or.inl ?_
            rw [Nat.add_comm, Nat.testBit_two_pow_add_gt v]
          · exact Or.inr (by omega)
        rcases e with e | e
        · rw [e] at h
          have := sb_bit F t n i h
          exact ⟨by omega, this.2⟩
        · have h2 : (sb F t n + 2 ^ n).testBit i = false := Nat.testBit_lt_two_pow (by
            have : 2 ^ (n + 1) ≤ 2 ^ i := Nat.pow_le_pow_right (by omega) (by omega)
            rw [Nat.pow_succ] at this
            omega)
          rw [h2] at h
          cases h
    · rw [sb_n q] at h
      have := sb_bit F t n i h
      exact ⟨by omega, this.2⟩
theorem sb_dis (F : Nat → Int) {t u : Int} (h : t ≠ u) (n : Nat) : sb F t n &&& sb F u n = 0 := by
  apply Nat.eq_of_testBit_eq
  intro i
  rw [Nat.testBit_and, Nat.zero_testBit]
  cases h1 : (sb F t n).testBit i with
  | false => rfl
  | true =>
    cases h2 : (sb F u n).testBit i with
    | false => rfl
    | true => exact absurd ((sb_bit F t n i h1).2.symm.trans (sb_bit F u n i h2).2) h
/-! questions about settings and counts; the best plan's answers -/
section PQ
variable {Z : Nat → Int} {np len : Int}
theorem cn0 : pl_cnt Z np len 0 = Z 0 := (if_pos (by omega)).trans rfl
theorem cn1 : pl_cnt Z np len 1 = Z 1 := (if_pos (by omega)).trans rfl
theorem cn4 : pl_cnt Z np len 4 = Z 4 := (if_pos (by omega)).trans rfl
theorem cn5 : pl_cnt Z np len 5 = Z 5 := (if_pos (by omega)).trans rfl
theorem cn6 : pl_cnt Z np len 6 = Z 6 := (if_pos (by omega)).trans rfl
theorem cn7 : pl_cnt Z np len 7 = Z 7 := (if_pos (by omega)).trans rfl
theorem cn8 : pl_cnt Z np len 8 = Z 8 := (if_pos (by omega)).trans rfl
theorem cn10 : pl_cnt Z np len 10 = Z 114 := by
  unfold pl_cnt
  rw [if_neg (by omega), if_pos rfl]
theorem cn12 : pl_cnt Z np len 12 = len := by
  unfold pl_cnt
  rw [if_neg (by omega), if_neg (by omega), if_neg (by omega), if_pos rfl]
theorem pn_best (hV : VL Z) : (bv NOP Z 24 (Z 7) = NOP ∧ pl_best Z = -6) ∨ (bv NOP Z 24 (Z 7) ≠ NOP ∧ pl_best Z = bv NOP Z 24 (Z 7) + 10000000 ∧ -2664000 ≤ bv NOP Z 24 (Z 7) ∧ bv NOP Z 24 (Z 7) ≤ 2664000) := by
  have hs := hV.1
  unfold VS at hs
  have h := bv_top_rng hV (l := Z 7) (by omega)
  have e : NOP = -1000000000 := rfl
  unfold pl_best
  by_cases q : bv NOP Z 24 (Z 7) = NOP
  · rw [if_pos q]
    exact Or.inl ⟨q, rfl⟩
  · rw [if_neg q]
    exact Or.inr ⟨q, rfl, by omega, by omega⟩
theorem pn_bp (hV : VL Z) : (bv NOP Z 24 (Z 7) = NOP ∧ pl_bp Z 0 = -6) ∨ (bv NOP Z 24 (Z 7) ≠ NOP ∧ 70 ≤ pl_bp Z 0 ∧ pl_bp Z 0 ≤ 130) := by
  have hs := hV.1
  unfold VS at hs
  by_cases q : bv NOP Z 24 (Z 7) = NOP
  · refine Or.inl ⟨q, ?_⟩
    unfold pl_bp
    rw [if_pos (by omega), if_pos q]
  · refine Or.inr ⟨q, ?_⟩
    have h := ((bp_ok hV NOP_le q 0 (by omega)).2.2 (by omega)).1
    have e : pl_bp Z 0 = bp NOP Z 0 + 100 := by
      unfold pl_bp
      rw [if_pos (by omega), if_neg q]
      rfl
    rw [e]
    omega
theorem pn_wor (hV : VL Z) : pl_wor Z 0 = if bv NOP Z 24 (Z 7) = NOP then -6 else 10000000 := by
  have hs := hV.1
  unfold VS at hs
  unfold pl_wor
  rw [if_pos (by omega), Int.add_zero]
  by_cases q : bv NOP Z 24 (Z 7) = NOP
  · rw [if_pos (Or.inl q), if_pos q]
  · rw [if_neg (fun w => w.elim q q), if_neg q]
    omega
end PQ
