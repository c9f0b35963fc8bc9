/-! the reference: how its rows lie -/
def mz (Z : Nat → Int) : Nat → Int := fun k => if k < 82 then Z k else if k = 82 then Z 114 else if k < 115 then Z (k - 1) else 0
theorem mz_lo {Z : Nat → Int} {k : Nat} (h : k < 82) : mz Z k = Z k := if_pos h
theorem mz_82 (Z : Nat → Int) : mz Z 82 = Z 114 := rfl
theorem mz_hi {Z : Nat → Int} {k : Nat} (h : 82 < k ∧ k < 115) : mz Z k = Z (k - 1) := by
  unfold mz
  rw [if_neg (by omega), if_neg (by omega), if_pos h.2]
theorem mz_row {Z : Nat → Int} {c w : Nat} (h : c < 8 ∧ w < 4) : mz Z (83 + 4 * c + w) = Z (82 + c * 4 + w) := by
  rw [mz_hi (by omega), show 83 + 4 * c + w - 1 = 82 + c * 4 + w by omega]
theorem mz_out {Z : Nat → Int} {k : Nat} (h : 115 ≤ k) : mz Z k = 0 := by
  unfold mz
  rw [if_neg (by omega), if_neg (by omega), if_neg (by omega)]
theorem mz_up {Z : Nat → Int} {k : Nat} {v : Int} (h : k < 82) : zup (mz Z) k v = mz (zup Z k v) := by
  funext j
  unfold mz zup
  dsimp only
  by_cases a : j = k
  · subst a
    rw [if_pos rfl, if_pos h, if_pos rfl]
  · rw [if_neg a]
    by_cases b : j < 82
    · rw [if_pos b, if_pos b, if_neg a]
    · rw [if_neg b, if_neg b]
      by_cases c : j = 82
      · rw [if_pos c, if_pos c, if_neg (by omega)]
      · rw [if_neg c, if_neg c]
        by_cases d : j < 115
        · rw [if_pos d, if_pos d, if_neg (by omega)]
        · rw [if_neg d, if_neg d]
theorem mz_up82 {Z : Nat → Int} {v : Int} : zup (mz Z) 82 v = mz (zup Z 114 v) := by
  funext j
  unfold mz zup
  dsimp only
  by_cases a : j = 82
  · subst a
    rfl
  · rw [if_neg a]
    by_cases b : j < 82
    · rw [if_pos b, if_pos b, if_neg (by omega)]
    · rw [if_neg b, if_neg b, if_neg a, if_neg a]
      by_cases d : j < 115
      · rw [if_pos d, if_pos d, if_neg (by omega)]
      · rw [if_neg d, if_neg d]
theorem mz_upC {Z : Nat → Int} {k : Nat} {v : Int} (h : 82 ≤ k ∧ k < 114) : zup (mz Z) (k + 1) v = mz (zup Z k v) := by
  funext j
  unfold mz zup
  dsimp only
  by_cases a : j = k + 1
  · subst a
    rw [if_pos rfl, if_neg (by omega), if_neg (by omega), if_pos (by omega), if_pos (by omega)]
  · rw [if_neg a]
    by_cases b : j < 82
    · rw [if_pos b, if_pos b, if_neg (by omega)]
    · rw [if_neg b, if_neg b]
      by_cases c : j = 82
      · rw [if_pos c, if_pos c, if_neg (by omega)]
      · rw [if_neg c, if_neg c]
        by_cases d : j < 115
        · rw [if_pos d, if_pos d, if_neg (by omega)]
        · rw [if_neg d, if_neg d]
theorem mz_upR {Z : Nat → Int} {c w : Nat} {v : Int} (h : c < 8 ∧ w < 4) : zup (mz Z) (83 + 4 * c + w) v = mz (zup Z (82 + c * 4 + w) v) := by
  rw [show 83 + 4 * c + w = (82 + c * 4 + w) + 1 by omega, mz_upC (by omega)]
/-- G laid at place t, n of it -/
def zlay (t n : Nat) (G F : Nat → Int) : Nat → Int := fun k => if t ≤ k ∧ k < t + n then G (k - t) else F k
theorem zlay_0 (t : Nat) (G F : Nat → Int) : F = zlay t 0 G F := by
  funext k
  unfold zlay
  rw [if_neg (by omega)]
theorem zlay_s {t n : Nat} {G F : Nat → Int} {v : Int} (h : v = G n) : zup (zlay t n G F) (t + n) v = zlay t (n + 1) G F := by
  funext k
  unfold zup zlay
  by_cases a : k = t + n
  · subst a
    rw [if_pos rfl, if_pos (by omega), h, show t + n - t = n by omega]
  · rw [if_neg a]
    by_cases b : t ≤ k ∧ k < t + n
    · rw [if_pos b, if_pos (by omega)]
    · rw [if_neg b, if_neg (by omega)]
theorem zlay_in {t n k : Nat} {G F : Nat → Int} (h : k < n) : zlay t n G F (t + k) = G k := by
  unfold zlay
  rw [if_pos (by omega), show t + k - t = k by omega]
theorem zlay_out {t n k : Nat} {G F : Nat → Int} (h : k < t ∨ t + n ≤ k) : zlay t n G F k = F k := if_neg (by omega)
theorem zlay_cong {t n : Nat} {G G' F : Nat → Int} (h : ∀ k : Nat, k < n → G k = G' k) : zlay t n G F = zlay t n G' F := by
  funext k
  unfold zlay
  by_cases b : t ≤ k ∧ k < t + n
  · rw [if_pos b, if_pos b, h _ (by omega)]
  · rw [if_neg b, if_neg b]
theorem zlay_mz {G : Nat → Int} {Y Z : Nat → Int} (h : ∀ k : Nat, k < 115 → G k = mz Y k) : zlay 0 115 G (mz Z) = mz Y := by
  funext k
  unfold zlay
  by_cases b : 0 ≤ k ∧ k < 0 + 115
  · rw [if_pos b, Nat.sub_zero, h k (by omega)]
  · rw [if_neg b, mz_out (by omega), mz_out (by omega)]
/-- the states that are kept move down by one -/
def rcS (F : Nat → Int) (n : Nat) : Nat → Int := fun k => if k < n then F (k + 115) else F k
theorem rcS_0 (F : Nat → Int) : F = rcS F 0 := by
  funext k
  unfold rcS
  rw [if_neg (by omega)]
theorem rcS_s {F : Nat → Int} {n : Nat} : zup (rcS F n) n (rcS F n (n + 115)) = rcS F (n + 1) := by
  funext k
  unfold zup rcS
  by_cases a : k = n
  · subst a
    rw [if_pos rfl, if_neg (by omega), if_pos (by omega)]
  · rw [if_neg a]
    by_cases b : k < n
    · rw [if_pos b, if_pos (by omega)]
    · rw [if_neg b, if_neg (by omega)]
def rc_k (kp : Int) : Nat := if kp = 6 then 5 else kp.toNat
def rc_F (F : Nat → Int) (kp : Int) (G : Nat → Int) : Nat → Int := zlay (115 * rc_k kp) 115 G (if kp = 6 then rcS F 575 else F)
def rc_n (kp : Int) : Int := if kp = 6 then 6 else kp + 1
def NEV : Int := -100000000
theorem NEV_le : NEV ≤ -100000000 := by decide
/-- the reference's table of the most money: as far as row h0 down, and there as far as place k -/
def MT (Z M : Nat → Int) (h0 : Nat) : Prop := ∀ h : Nat, h0 ≤ h → h ≤ 24 → ∀ l : Nat, l ≤ 200 → M (201 * h + l) = bv NEV Z (24 - h) (l : Int)
theorem MT.at {Z M : Nat → Int} {h0 h : Nat} (hM : MT Z M h0) (h1 : h0 ≤ h) (h2 : h ≤ 24) {l : Int} (hl : 0 ≤ l ∧ l ≤ 200) : M (201 * h + l.toNat) = bv NEV Z (24 - h) l := by
  rw [hM h h1 h2 l.toNat (by omega), show ((l.toNat : Nat) : Int) = l by omega]
/-- a contract is dropped: only those behind it move -/
def rd_z (Z : Nat → Int) (c : Int) : Nat → Int := if 0 ≤ c ∧ c < Z 114 then zup (lk_up Z (82 + c.toNat * 4) (82 + (Z 114 - 1).toNat * 4)) 114 (Z 114 - 1) else Z
theorem rd_s {Z : Nat → Int} {a n : Nat} {v : Int} (h : 82 ≤ a ∧ a ≤ n ∧ n < 110) : zup (mz (zup (lk_up Z a n) 114 v)) (n + 1) (mz (zup (lk_up Z a n) 114 v) (n + 1 + 4)) = mz (zup (lk_up Z a (n + 1)) 114 v) := by
  rw [mz_upC (by omega), mz_hi (by omega)]
  congr 1
  rw [show n + 1 + 4 - 1 = n + 4 by omega, ← lk_up_s h.2.1]
  funext k
  unfold zup
  by_cases a1 : k = n
  · subst a1
    rw [if_pos rfl, if_neg (show ¬ k = 114 by omega), if_pos rfl, if_neg (show ¬ k + 4 = 114 by omega)]
  · rw [if_neg a1]
    by_cases b1 : k = 114
    · rw [if_pos b1, if_pos b1]
    · rw [if_neg b1, if_neg b1, if_neg a1]
theorem lk_up_0 (Z : Nat → Int) (a : Nat) : lk_up Z a a = Z := by
  funext k
  unfold lk_up
  rw [if_neg (by omega)]
