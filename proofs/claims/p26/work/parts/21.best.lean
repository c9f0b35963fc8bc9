/-! the best plan: what the search lays -/
def NOP : Int := -1000000000
/-- a value behind an hour, and the hour's money; N says that there is none -/
def gn (N v m : Int) : Int := if v = N then N else v + m
def eaF (Z : Nat → Int) (h : Nat) : Nat → Int := fun d => lk_earn Z h (d : Int)
def ahF (Z : Nat → Int) (M : Nat → Nat → Int) (h : Nat) : Nat → Int := fun r => M (h + 1) ((r : Int) - lk_spill Z (r : Int)).toNat
def mwF (A E : Nat → Int) (f d : Int) : Int := if (0 ≤ d ∧ d ≤ 30) ∧ (0 ≤ f - d ∧ f - d ≤ 329) ∧ A (f - d).toNat ≠ -1000000000 then A (f - d).toNat + E d.toNat else -1000000000
def idF (Z A E : Nat → Int) : Nat → Int := fun f => mwF A E (f : Int) (lk_down Z (f : Int) (Z 4))
def gaF (Z : Nat → Int) : Nat → Int := fun p => (p : Int) - lk_loss Z (p : Int)
/-- the most with less than n pumped -/
def mpF (I G : Nat → Int) (f pr : Int) : Nat → Int
  | 0 => -1000000000
  | n + 1 => if (0 ≤ f + G n ∧ f + G n ≤ 329) ∧ I (f + G n).toNat ≠ -1000000000 then max (mpF I G f pr n) (I (f + G n).toNat - (n : Int) * pr) else mpF I G f pr n
/-- the most with from 1 to n let down, more than FLOW -/
def mdF (Z A E : Nat → Int) (f : Int) : Nat → Int
  | 0 => -1000000000
  | n + 1 => if Z 4 < ((n + 1 : Nat) : Int) ∧ (0 ≤ f - ((n + 1 : Nat) : Int) ∧ f - ((n + 1 : Nat) : Int) ≤ 329) ∧ A (f - ((n + 1 : Nat) : Int)).toNat ≠ -1000000000 then max (mdF Z A E f n) (A (f - ((n + 1 : Nat) : Int)).toNat + E (n + 1)) else mdF Z A E f n
/-- the money from an hour on by the plan u, out of the rows -/
def lvF (Z A E : Nat → Int) (h : Nat) (lev u : Int) : Int := mwF A E (lk_fill Z h lev (lk_pump u)) (lk_down Z (lk_fill Z h lev (lk_pump u)) (lk_want Z u))
/-- the first plan from u on, k at most, that reaches the goal -/
def lwF (Z A E : Nat → Int) (h : Nat) (lev goal : Int) : Int → Nat → Int
  | u, 0 => u
  | u, k + 1 => if lvF Z A E h lev u ≠ -1000000000 ∧ lvF Z A E h lev u - lk_pump u * Z (10 + h) = goal then u else lwF Z A E h lev goal (u + 1) k
theorem mwF_rng {A E : Nat → Int} {f d : Int} (hA : ∀ r : Nat, r < 330 → -1000000000 ≤ A r ∧ A r ≤ 1000000000) (hE : ∀ r : Nat, r < 31 → -200000 ≤ E r ∧ E r ≤ 200000) : -1000200000 ≤ mwF A E f d ∧ mwF A E f d ≤ 1000200000 := by
  unfold mwF
  split
  · rename_i h
    have h1 := hA (f - d).toNat (by omega)
    have h2 := hE d.toNat (by omega)
    omega
  · omega
theorem mpF_rng {I G : Nat → Int} {f pr : Int} (hI : ∀ r : Nat, r < 330 → -1000200000 ≤ I r ∧ I r ≤ 1000200000) (hp : 0 ≤ pr ∧ pr ≤ 999) : ∀ n : Nat, n ≤ 31 → -1001000000 ≤ mpF I G f pr n ∧ mpF I G f pr n ≤ 1001000000
  | 0, _ => by unfold mpF; omega
  | n + 1, hn => by
    have ih := mpF_rng (G := G) (f := f) hI hp n (by omega)
    unfold mpF
    split
    · rename_i h
      have h1 := hI (f + G n).toNat (by omega)
      have h2 := zmul (a := (n : Int)) (b := pr) (A := 30) (B := 999) (by omega) hp
      omega
    · exact ih
theorem mdF_rng {Z A E : Nat → Int} {f : Int} (hA : ∀ r : Nat, r < 330 → -1000000000 ≤ A r ∧ A r ≤ 1000000000) (hE : ∀ r : Nat, r < 31 → -200000 ≤ E r ∧ E r ≤ 200000) : ∀ n : Nat, n ≤ 30 → -1001000000 ≤ mdF Z A E f n ∧ mdF Z A E f n ≤ 1001000000
  | 0, _ => by unfold mdF; omega
  | n + 1, hn => by
    have ih := mdF_rng (Z := Z) (f := f) hA hE n (by omega)
    unfold mdF
    split
    · rename_i h
      have h1 := hA (f - ((n + 1 : Nat) : Int)).toNat (by omega)
      have h2 := hE (n + 1) (by omega)
      omega
    · exact ih
theorem mwF_mix (A E A0 E0 : Nat → Int) (f d : Int) : mwF (zmix 330 A A0) (zmix 31 E E0) f d = mwF A E f d := by
  unfold mwF
  by_cases h : (0 ≤ d ∧ d ≤ 30) ∧ (0 ≤ f - d ∧ f - d ≤ 329)
  · rw [zmix_in (show (f - d).toNat < 330 by omega), zmix_in (show d.toNat < 31 by omega)]
  · rw [if_neg (fun q => h ⟨q.1, q.2.1⟩), if_neg (fun q => h ⟨q.1, q.2.1⟩)]
theorem ahF_rng {Z : Nat → Int} {M : Nat → Nat → Int} {k : Nat} (hV : VL Z) (hM : ∀ r : Nat, (r : Int) ≤ Z 6 → -1000000000 ≤ M (k + 1) r ∧ M (k + 1) r ≤ 1000000000) (r : Nat) : -1000000000 ≤ ahF Z M k r ∧ ahF Z M k r ≤ 1000000000 := by
  have hs := hV.1
  unfold VS at hs
  unfold ahF
  exact hM _ (by unfold lk_spill; omega)
theorem eaF_rng {Z : Nat → Int} {k : Nat} (hV : VL Z) (hk : k < 24) (r : Nat) (hr : r < 31) : -200000 ≤ eaF Z k r ∧ eaF Z k r ≤ 200000 := by
  have := lk_earn_rng hV hk (d := (r : Int)) (by omega)
  unfold eaF
  omega
theorem zmix_rng {n N : Nat} {d F : Nat → Int} {a b : Int} (h : ∀ r : Nat, r < n → a ≤ d r ∧ d r ≤ b) (hn : N ≤ n) : ∀ r : Nat, r < N → a ≤ zmix n d F r ∧ zmix n d F r ≤ b := fun r hr => by
  rw [zmix_in (by omega)]
  exact h r (by omega)
