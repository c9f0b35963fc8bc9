/-! two states that are told apart by nothing: alike in settings, hours, and the contracts that there are -/
def EL (Y Z : Nat → Int) : Prop := (∀ k : Nat, k < 82 → Y k = Z k) ∧ Y 114 = Z 114 ∧ ∀ c w : Nat, (c : Int) < Z 114 → w < 4 → Y (82 + c * 4 + w) = Z (82 + c * 4 + w)
section ELs
variable {Y Z : Nat → Int}
theorem EL.rf (Z : Nat → Int) : EL Z Z := ⟨fun _ _ => rfl, rfl, fun _ _ _ _ => rfl⟩
theorem el_fill (he : EL Y Z) {h : Nat} (hh : h < 24) (lev p : Int) : lk_fill Y h lev p = lk_fill Z h lev p := by
  unfold lk_fill lk_loss
  rw [he.1 2 (by omega), he.1 (34 + h) (by omega)]
theorem el_loss (he : EL Y Z) (p : Int) : lk_loss Y p = lk_loss Z p := by
  unfold lk_loss
  rw [he.1 2 (by omega)]
theorem el_down (he : EL Y Z) (fl w : Int) : lk_down Y fl w = lk_down Z fl w := by
  unfold lk_down
  rw [he.1 5 (by omega)]
theorem el_spill (he : EL Y Z) (lev : Int) : lk_spill Y lev = lk_spill Z lev := by
  unfold lk_spill
  rw [he.1 6 (by omega)]
theorem el_want (he : EL Y Z) (u : Int) : lk_want Y u = lk_want Z u := by
  unfold lk_want
  rw [he.1 4 (by omega)]
theorem el_cs (he : EL Y Z) (h : Nat) (d : Int) : ∀ n : Nat, (n : Int) ≤ Z 114 → lk_cs Y h d n = lk_cs Z h d n
  | 0, _ => rfl
  | n + 1, hn => by
    unfold lk_cs
    rw [el_cs he h d n (by omega), he.2.2 n 0 (by omega) (by omega), he.2.2 n 1 (by omega) (by omega), he.2.2 n 2 (by omega) (by omega), he.2.2 n 3 (by omega) (by omega)]
theorem el_miss (he : EL Y Z) (h : Nat) (d : Int) : ∀ n : Nat, (n : Int) ≤ Z 114 → lk_miss Y h d n = lk_miss Z h d n
  | 0, _ => rfl
  | n + 1, hn => by
    unfold lk_miss
    rw [el_miss he h d n (by omega), he.2.2 n 0 (by omega) (by omega), he.2.2 n 1 (by omega) (by omega)]
theorem el_missed (he : EL Y Z) (hV : VL Z) (h : Nat) (d : Int) : lk_missed Y h d = lk_missed Z h d := by
  have hs := hV.1
  unfold VS at hs
  unfold lk_missed
  rw [he.2.1, el_miss he h d _ (by omega)]
theorem el_earn (he : EL Y Z) (hV : VL Z) {h : Nat} (hh : h < 24) (d : Int) : lk_earn Y h d = lk_earn Z h d := by
  have hs := hV.1
  unfold VS at hs
  unfold lk_earn
  rw [he.2.1, el_cs he h d _ (by omega), he.1 (10 + h) (by omega), he.1 3 (by omega), he.1 4 (by omega), he.1 9 (by omega)]
theorem el_dn (he : EL Y Z) {h : Nat} (hh : h < 24) (lev u : Int) : hr_dn Y h lev u = hr_dn Z h lev u := by
  unfold hr_dn
  rw [el_fill he hh, el_want he, el_down he]
theorem el_sp (he : EL Y Z) {h : Nat} (hh : h < 24) (lev u : Int) : hr_sp Y h lev u = hr_sp Z h lev u := by
  unfold hr_sp
  rw [el_fill he hh, el_dn he hh, el_spill he]
theorem el_lv (he : EL Y Z) {h : Nat} (hh : h < 24) (lev u : Int) : hr_lv Y h lev u = hr_lv Z h lev u := by
  unfold hr_lv
  rw [el_fill he hh, el_dn he hh, el_sp he hh]
theorem el_behind (he : EL Y Z) {h : Nat} (hh : h < 24) (lev u : Int) : lk_behind Y h lev u = lk_behind Z h lev u := by
  rw [← hr_lv_eq, ← hr_lv_eq, el_lv he hh]
theorem el_mo (he : EL Y Z) (hV : VL Z) {h : Nat} (hh : h < 24) (lev u : Int) : hr_mo Y h lev u = hr_mo Z h lev u := by
  unfold hr_mo
  rw [el_dn he hh, el_earn he hV hh, he.1 (10 + h) (by omega)]
theorem el_tr (he : EL Y Z) (hV : VL Z) {h : Nat} (hh : h < 24) (lev u : Int) : hr_tr Y h lev u = hr_tr Z h lev u := by
  unfold hr_tr lk_tr
  rw [el_dn he hh, el_want he, el_sp he hh, el_missed he hV, he.1 4 (by omega)]
theorem el_bv (he : EL Y Z) (hV : VL Z) (N : Int) : ∀ r : Nat, r ≤ 24 → ∀ l : Int, bv N Y r l = bv N Z r l
  | 0, _, l => by
    unfold bv
    rw [he.1 8 (by omega)]
  | r + 1, hr, l => by
    have ih := el_bv he hV N r (by omega)
    have e : (fun u => fv N Y r (23 - r) l u) = fun u => fv N Z r (23 - r) l u := by
      funext u
      unfold fv
      rw [el_behind he (by omega), el_mo he hV (by omega), ih]
    rw [bv_s, bv_s, e, he.1 0 (by omega), he.1 1 (by omega)]
theorem el_fv (he : EL Y Z) (hV : VL Z) (N : Int) {r h : Nat} (hr : r ≤ 24) (hh : h < 24) (lev : Int) : fv N Y r h lev = fv N Z r h lev := by
  funext u
  unfold fv
  rw [el_behind he hh, el_mo he hV hh, el_bv he hV N r hr]
theorem el_bl (he : EL Y Z) (hV : VL Z) (N : Int) : ∀ h : Nat, h ≤ 24 → bl N Y h = bl N Z h
  | 0, _ => he.1 7 (by omega)
  | h + 1, hh => by
    have ih := el_bl he hV N h (by omega)
    unfold bl
    rw [ih, el_fv he hV N (by omega) (by omega), el_bv he hV N _ (by omega), he.1 0 (by omega), he.1 1 (by omega), el_behind he (by omega)]
theorem el_bp (he : EL Y Z) (hV : VL Z) (N : Int) {h : Nat} (hh : h < 24) : bp N Y h = bp N Z h := by
  unfold bp
  rw [el_bl he hV N h (by omega), el_fv he hV N (by omega) hh, el_bv he hV N _ (by omega), he.1 0 (by omega), he.1 1 (by omega)]
theorem el_top (he : EL Y Z) : ∀ n : Nat, n ≤ 24 → lk_top Y n = lk_top Z n
  | 0, _ => he.1 7 (by omega)
  | n + 1, hn => by
    have ih := el_top he n (by omega)
    unfold lk_top
    rw [ih, el_behind he (by omega), he.1 0 (by omega)]
theorem el_lev (he : EL Y Z) : ∀ n : Nat, n ≤ 24 → dy_lev Y n = dy_lev Z n
  | 0, _ => he.1 7 (by omega)
  | n + 1, hn => by
    have ih := el_lev he n (by omega)
    unfold dy_lev
    rw [ih, el_lv he (by omega), he.1 (58 + n) (by omega)]
theorem el_day (he : EL Y Z) (hV : VL Z) {n : Nat} (hn : n < 24) : dy_dn Y n = dy_dn Z n ∧ dy_pu Y n = dy_pu Z n ∧ dy_lo Y n = dy_lo Z n ∧ dy_sp Y n = dy_sp Z n ∧ dy_le Y n = dy_le Z n ∧ dy_mo Y n = dy_mo Z n ∧ dy_tr Y n = dy_tr Z n := by
  unfold dy_dn dy_pu dy_lo dy_sp dy_le dy_mo dy_tr
  rw [el_lev he n (by omega), he.1 (58 + n) (by omega), el_dn he hn, el_loss he, el_sp he hn, el_lv he hn, el_mo he hV hn, el_tr he hV hn]
  exact ⟨rfl, rfl, rfl, rfl, rfl, rfl, rfl⟩
theorem el_ls (he : EL Y Z) (hV : VL Z) : ∀ n : Nat, n ≤ 24 → dy_ls Y n = dy_ls Z n
  | 0, _ => rfl
  | n + 1, hn => by
    have ih := el_ls he hV n (by omega)
    have h := el_day he hV (n := n) (by omega)
    unfold dy_ls
    rw [ih, h.2.2.2.1]
theorem el_ca (he : EL Y Z) (hV : VL Z) {n : Nat} (hn : n < 24) : dy_ca Y n = dy_ca Z n := by
  have h := el_day he hV hn
  unfold dy_ca
  rw [h.2.2.2.2.2.2, el_ls he hV n (by omega)]
theorem el_hv (he : EL Y Z) (hV : VL Z) {n : Nat} (hn : n < 24) (b : Int) : pl_hv Y n b = pl_hv Z n b := by
  have h := el_day he hV hn
  unfold pl_hv
  rw [he.1 (10 + n) (by omega), he.1 (34 + n) (by omega), he.1 (58 + n) (by omega), h.1, h.2.1, h.2.2.1, h.2.2.2.1, h.2.2.2.2.1, h.2.2.2.2.2.1, h.2.2.2.2.2.2, el_ca he hV hn]
theorem el_hour (he : EL Y Z) (hV : VL Z) (a b : Int) : pl_hour Y a b = pl_hour Z a b := by
  unfold pl_hour
  split
  · exact el_hv he hV (by omega) b
  · rfl
theorem el_day2 (he : EL Y Z) (hV : VL Z) (b : Int) : pl_day Y b = pl_day Z b := by
  have h : ∀ j : Nat, j < 24 → _ := fun j hj => el_day he hV (n := j) hj
  unfold pl_day
  rw [zsum_congr 24 (fun j hj => (h j hj).2.2.2.2.2.1), zsum_congr 24 (fun j hj => (h j hj).1), zsum_congr 24 (fun j hj => (h j hj).2.1), zsum_congr 24 (fun j hj => (h j hj).2.2.1), zsum_congr 24 (fun j hj => (h j hj).2.2.2.1), (h 23 (by omega)).2.2.2.2.1, nb_congr (t := 1) 24 (fun j hj => (h j hj).2.2.2.2.2.2), nb_congr (t := 2) 24 (fun j hj => (h j hj).2.2.2.2.2.2), he.1 8 (by omega),
    zsum_congr (f := fun h => lk_missed Y h (dy_dn Y h)) (g := fun h => lk_missed Z h (dy_dn Z h)) 24 (fun j hj => by show lk_missed Y j (dy_dn Y j) = lk_missed Z j (dy_dn Z j); rw [(h j hj).1, el_missed he hV]), zsum_congr (f := fun h => Y (34 + h)) (g := fun h => Z (34 + h)) 24 (fun j hj => he.1 (34 + j) (by omega))]
theorem el_trb (he : EL Y Z) (hV : VL Z) (a : Int) : pl_trb Y a = pl_trb Z a := by
  unfold pl_trb
  rw [sb_congr 24 (fun j hj => (el_day he hV (n := j) hj).2.2.2.2.2.2)]
theorem el_of (he : EL Y Z) (hV : VL Z) (a b : Int) : pl_of Y a b = pl_of Z a b := by
  unfold pl_of
  rw [he.2.1]
  by_cases q : 0 ≤ a ∧ a < Z 114
  · rw [if_pos q, if_pos q]
    have hc := hV.2.2 a.toNat (by omega)
    by_cases w : 0 ≤ b ∧ b ≤ 4
    · rw [if_pos w, if_pos w]
      by_cases v : b < 4
      · rw [if_pos v, if_pos v, he.2.2 a.toNat b.toNat (by omega) (by omega)]
      · rw [if_neg v, if_neg v, he.2.2 a.toNat 1 (by omega) (by omega), he.2.2 a.toNat 0 (by omega) (by omega), (el_day he hV (n := (Z (82 + a.toNat * 4 + 0)).toNat) (by omega)).1]
    · rw [if_neg w, if_neg w]
  · rw [if_neg q, if_neg q]
theorem el_cnt (he : EL Y Z) (np len a : Int) : pl_cnt Y np len a = pl_cnt Z np len a := by
  unfold pl_cnt
  rw [he.2.1]
  split
  · exact he.1 a.toNat (by omega)
  · rfl
theorem el_best (he : EL Y Z) (hV : VL Z) : pl_best Y = pl_best Z := by
  unfold pl_best
  rw [he.1 7 (by omega), el_bv he hV NOP 24 (by omega)]
theorem el_bpl (he : EL Y Z) (hV : VL Z) (a : Int) : pl_bp Y a = pl_bp Z a := by
  unfold pl_bp
  rw [he.1 7 (by omega), el_bv he hV NOP 24 (by omega)]
  split
  · rw [el_bp he hV NOP (by omega)]
  · rfl
theorem el_wor (he : EL Y Z) (hV : VL Z) (a : Int) : pl_wor Y a = pl_wor Z a := by
  unfold pl_wor
  rw [he.1 7 (by omega), el_bv he hV NOP 24 (by omega), el_bv he hV NOP 24 (by omega)]
theorem el_save (he : EL Y Z) (hV : VL Z) (a : Int) : pl_save Y a = pl_save Z a := by
  unfold pl_save
  rw [zsum_congr 24 (fun j hj => (el_day he hV (n := j) hj).2.2.2.2.2.1)]
end ELs
