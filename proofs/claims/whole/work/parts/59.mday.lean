/-! the reference's day: its sums are the class's -/
def ih_v (Z : Nat → Int) (h : Nat) (dn pu lo sp wa w : Int) : Int := if w = 0 then lk_earn Z h dn - pu * Z (10 + h) else if w = 1 then dn else if w = 2 then pu else if w = 3 then lo else if w = 4 then sp else if w = 6 then (if dn < Z 4 then 1 else 0) else if w = 7 then (if dn < wa then 1 else 0) else if w = 8 then lk_missed Z h dn else Z (34 + h)
def da_v (Z : Nat → Int) (w : Int) (h : Nat) : Int := ih_v Z h (dy_dn Z h) (dy_pu Z h) (dy_lo Z h) (dy_sp Z h) (lk_want Z (Z (58 + h))) w
def da_s (Z : Nat → Int) (w : Int) (n : Nat) : Int := zsum (da_v Z w) n
theorem dy_ls_e (Z : Nat → Int) (n : Nat) : dy_ls Z n = if n = 0 then -6 else if 0 < dy_sp Z (n - 1) then ((n - 1 : Nat) : Int) else dy_ls Z (n - 1) := by
  cases n with
  | zero => rfl
  | succ k =>
    rw [if_neg (Nat.succ_ne_zero k), Nat.add_sub_cancel]
    rfl
theorem zsum_if {p : Nat → Prop} [DecidablePred p] {F : Nat → Int} {t : Int} : ∀ n : Nat, (∀ j : Nat, j < n → (p j ↔ F j = t)) → zsum (fun j => if p j then 1 else 0) n = (nb F t n : Int)
  | 0, _ => rfl
  | n + 1, h => by
    have ih := zsum_if n (fun j hj => h j (by omega))
    have h1 := h n (by omega)
    show zsum _ n + (if p n then 1 else 0) = ((nb F t n + (if F n = t then 1 else 0) : Nat) : Int)
    rw [ih]
    by_cases a : p n
    · rw [if_pos a, if_pos (h1.1 a)]
      rfl
    · rw [if_neg a, if_neg (fun q => a (h1.2 q))]
      rfl
theorem nb_two {F G : Nat → Int} {s t : Int} (hst : s ≠ t) : ∀ n : Nat, (∀ j : Nat, j < n → G j = if F j = s ∨ F j = t then 1 else 0) → zsum G n = (nb F s n : Int) + (nb F t n : Int)
  | 0, _ => rfl
  | n + 1, h => by
    have ih := nb_two hst n (fun j hj => h j (by omega))
    have h1 := h n (by omega)
    show zsum _ n + G n = ((nb F s n + (if F n = s then 1 else 0) : Nat) : Int) + ((nb F t n + (if F n = t then 1 else 0) : Nat) : Int)
    rw [ih, h1]
    by_cases a : F n = s
    · rw [if_pos (Or.inl a), if_pos a, if_neg (by omega)]
      omega
    · by_cases b : F n = t
      · rw [if_pos (Or.inr b), if_neg a, if_pos b]
        omega
      · rw [if_neg (by omega), if_neg a, if_neg b]
        omega
theorem dy_tr1 (Z : Nat → Int) (h : Nat) : dy_dn Z h < Z 4 ↔ dy_tr Z h = 1 := by
  show hr_dn Z h (dy_lev Z h) (Z (58 + h)) < Z 4 ↔ lk_tr Z h (hr_dn Z h (dy_lev Z h) (Z (58 + h))) _ _ = 1
  unfold lk_tr
  repeat' split
  all_goals omega
theorem dy_tr12 (Z : Nat → Int) (h : Nat) : dy_dn Z h < lk_want Z (Z (58 + h)) ↔ (dy_tr Z h = 1 ∨ dy_tr Z h = 2) := by
  show hr_dn Z h (dy_lev Z h) (Z (58 + h)) < lk_want Z (Z (58 + h)) ↔ (lk_tr Z h (hr_dn Z h (dy_lev Z h) (Z (58 + h))) (lk_want Z (Z (58 + h))) _ = 1 ∨ lk_tr Z h (hr_dn Z h (dy_lev Z h) (Z (58 + h))) (lk_want Z (Z (58 + h))) _ = 2)
  have : Z 4 ≤ lk_want Z (Z (58 + h)) := by unfold lk_want; omega
  unfold lk_tr
  repeat' split
  all_goals omega
theorem dy_lev_s (Z : Nat → Int) (n : Nat) : dy_lev Z (n + 1) = dy_le Z n := rfl
theorem da_day {Z : Nat → Int} {w : Int} (hw : 0 ≤ w ∧ w ≤ 10) : pl_day Z w = if w = 5 then dy_lev Z 24 else if w = 9 then (if Z 8 ≤ dy_lev Z 24 then 1 else 0) else (if w = 0 then 10000000 else 0) + da_s Z w 24 := by
  rcases (show w = 0 ∨ w = 1 ∨ w = 2 ∨ w = 3 ∨ w = 4 ∨ w = 5 ∨ w = 6 ∨ w = 7 ∨ w = 8 ∨ w = 9 ∨ w = 10 by omega) with rfl | rfl | rfl | rfl | rfl | rfl | rfl | rfl | rfl | rfl | rfl
  · show zsum (dy_mo Z) 24 + 10000000 = 10000000 + zsum (dy_mo Z) 24
    omega
  · show zsum (dy_dn Z) 24 = 0 + zsum (dy_dn Z) 24
    omega
  · show zsum (dy_pu Z) 24 = 0 + zsum (dy_pu Z) 24
    omega
  · show zsum (dy_lo Z) 24 = 0 + zsum (dy_lo Z) 24
    omega
  · show zsum (dy_sp Z) 24 = 0 + zsum (dy_sp Z) 24
    omega
  · show dy_le Z 23 = dy_lev Z 24
    exact (dy_lev_s Z 23).symm
  · show (nb (dy_tr Z) 1 24 : Int) = 0 + zsum (fun j => if dy_dn Z j < Z 4 then 1 else 0) 24
    rw [zsum_if 24 (fun j _ => dy_tr1 Z j)]
    omega
  · show (nb (dy_tr Z) 1 24 : Int) + (nb (dy_tr Z) 2 24 : Int) = 0 + zsum (fun j => if dy_dn Z j < lk_want Z (Z (58 + j)) then 1 else 0) 24
    rw [nb_two (F := dy_tr Z) (s := 1) (t := 2) (by omega) 24 (fun j _ => by
      by_cases a : dy_dn Z j < lk_want Z (Z (58 + j))
      · rw [if_pos a, if_pos ((dy_tr12 Z j).1 a)]
      · rw [if_neg a, if_neg (fun q => a ((dy_tr12 Z j).2 q))])]
    omega
  · show zsum (fun h => lk_missed Z h (dy_dn Z h)) 24 = 0 + zsum (fun h => lk_missed Z h (dy_dn Z h)) 24
    omega
  · have e1 : pl_day Z 9 = if Z 8 ≤ dy_le Z 23 then 1 else 0 := by
      unfold pl_day
      rw [if_neg (by omega), if_neg (by omega), if_neg (by omega), if_neg (by omega), if_neg (by omega), if_neg (by omega), if_neg (by omega), if_neg (by omega), if_neg (by omega), if_pos rfl]
    rw [e1, if_neg (show ¬ (9 : Int) = 5 by omega), if_pos (show (9 : Int) = 9 from rfl), show dy_lev Z 24 = dy_le Z 23 from dy_lev_s Z 23]
  · show zsum (fun h => Z (34 + h)) 24 = 0 + zsum (fun h => Z (34 + h)) 24
    omega
theorem da_rng {Z : Nat → Int} (hV : VL Z) (w : Int) : ∀ h : Nat, h < 24 → -111000 ≤ da_v Z w h ∧ da_v Z w h ≤ 111000 := fun h hh => by
  have h1 := dy_rng hV hh
  have h2 := lk_loss_rng hV h1.2.2.2.2
  have h3 := hr_mo_rng hV hh (dy_lev Z h) (u := Z (58 + h)) (hV.plan hh)
  have h4 := lk_miss_rng (Z := Z) h (dy_dn Z h) (Z 114).toNat
  have h5 := (hV.2.1 h hh).2.1
  have hs := hV.1
  unfold VS at hs
  have e : dy_mo Z h = lk_earn Z h (dy_dn Z h) - dy_pu Z h * Z (10 + h) := rfl
  have e2 : dy_lo Z h = lk_loss Z (dy_pu Z h) := rfl
  have e3 : dy_mo Z h = hr_mo Z h (dy_lev Z h) (Z (58 + h)) := rfl
  unfold da_v ih_v lk_missed
  repeat' split
  all_goals omega
theorem da_s_rng {Z : Nat → Int} (hV : VL Z) (w : Int) {n : Nat} (hn : n ≤ 24) : -2700000 ≤ da_s Z w n ∧ da_s Z w n ≤ 2700000 := by
  have := zsum_rng (f := da_v Z w) (A := 111000) n (fun j hj => da_rng hV w j (by omega))
  unfold da_s
  omega
section MV
variable {p : Program} {l : Launch} {e : Env} {R : Room} {s : State} {m : MethodId} {args : Array Value} {below : List Frame} {meth : Method} {c : Code} {H : Heap} {locs : List Loc} {cells slots : Nat} {Q : State → Prop}
variable {cc : ByteArray} {pc : Nat} {ls : Array Slot} {rest : List Value}
theorem kz_ior0 (hx : p.tables.exec = Jvm.exec) (hb : c.code = cc) {x : Int} (hdg : decode cc pc = .ok (.ior, 1)) (kk : W p l e R s m args below meth c H locs cells slots Q (F0 m (pc + 1) ls (.int (iz x) :: rest))) : W p l e R s m args below meth c H locs cells slots Q (F0 m pc ls (.int (iz 0) :: .int (iz x) :: rest)) := lv_ior hx hb hdg (by rw [show iz x ||| iz 0 = iz x from Int32.or_zero]; exact kk)
end MV
