/-! what the law's own walk needs -/
section PM3
variable {C b1 b2 b3 : va_W}
theorem kt123 : (((C ++ b1) ++ b2) ++ b3).Perm (((C ++ b1) ++ b2) ++ b3) := List.Perm.refl _
theorem kt132 : (((C ++ b1) ++ b2) ++ b3).Perm (((C ++ b1) ++ b3) ++ b2) := kRe (L := [C, b1, b2, b3]) [0, 1, 3, 2] rfl (by simp) (by simp)
theorem kt213 : (((C ++ b1) ++ b2) ++ b3).Perm (((C ++ b2) ++ b1) ++ b3) := kRe (L := [C, b1, b2, b3]) [0, 2, 1, 3] rfl (by simp) (by simp)
theorem kt231 : (((C ++ b1) ++ b2) ++ b3).Perm (((C ++ b2) ++ b3) ++ b1) := kRe (L := [C, b1, b2, b3]) [0, 2, 3, 1] rfl (by simp) (by simp)
theorem kt312 : (((C ++ b1) ++ b2) ++ b3).Perm (((C ++ b3) ++ b1) ++ b2) := kRe (L := [C, b1, b2, b3]) [0, 3, 1, 2] rfl (by simp) (by simp)
theorem kt321 : (((C ++ b1) ++ b2) ++ b3).Perm (((C ++ b3) ++ b2) ++ b1) := kRe (L := [C, b1, b2, b3]) [0, 3, 2, 1] rfl (by simp) (by simp)
end PM3
theorem iz_ti (x : Int32) : iz x.toInt = x := Int32.ofInt_toInt x
theorem zA_ti (xs : Nat → Int32) : zA (fun k => (xs k).toInt) = xs := funext fun k => iz_ti (xs k)
theorem i32_rng (x : Int32) : -2147483648 ≤ x.toInt ∧ x.toInt < 2147483648 := by
  have h1 := Int32.minValue_le_toInt x
  have h2 := Int32.toInt_le x
  have e1 : Int32.minValue.toInt = -2147483648 := by decide
  have e2 : Int32.maxValue.toInt = 2147483647 := by decide
  omega
theorem bt_and31 (z : Int) : iz z &&& iz 31 = iz (z % 32) := by
  apply Int32.toBitVec_inj.mp
  apply BitVec.eq_of_toNat_eq
  have e : ∀ w : Int, (iz w).toBitVec.toNat = (w % 4294967296).toNat := fun w => by
    show (BitVec.ofInt 32 w).toNat = _
    rw [BitVec.toNat_ofInt]
    rfl
  rw [Int32.toBitVec_and, BitVec.toNat_and, e, e, e, show ((31 : Int) % 4294967296).toNat = 2 ^ 5 - 1 by decide, Nat.and_two_pow_sub_one_eq_mod]
  omega
theorem lN_all (v : Int64) : ∃ w : Nat, w < 18446744073709551616 ∧ v = lN w := by
  refine ⟨v.toBitVec.toNat, v.toBitVec.isLt, ?_⟩
  apply Int64.toBitVec_inj.mp
  apply BitVec.eq_of_toNat_eq
  rw [bt_tn v.toBitVec.isLt]
section LK
variable {p : Program} {l : Launch} {e : Env} {R : Room} {s : State} {m : MethodId} {args : Array Value} {below : List Frame} {meth : Method} {c : Code} {H : Heap} {locs : List Loc} {cells slots : Nat} {Q : State → Prop}
variable {cc : ByteArray} {pc : Nat} {ls : Array Slot} {rest st0 : List Value} {D : va_G} {A : Nat → Prop} {H0 : Heap} {T : Nat → ClassId}
theorem kz_sld (hx : p.tables.exec = Jvm.exec) (hb : c.code = cc) {b L : Nat} {XS : Nat → Int} (hX : va_X b L (zA XS) s H0) (hbl : b < H0.size) (hbA : ¬ A b) (hS : va_S A H0 H locs) (hL : L ≤ 100000) (j : Nat) {i : Int} (hi : i = (j : Int)) (hj : j < L) (hdg : decode cc pc = .ok (.iaload, 1)) (kk : W p l e R s m args below meth c H locs cells slots Q (F0 m (pc + 1) ls (.int (iz (XS j)) :: rest))) : W p l e R s m args below meth c H locs cells slots Q (F0 m pc ls (.int (iz i) :: .ref b :: rest)) := by
  subst hi
  rw [iz_nI]
  refine va_sld hx hb hX hbl hbA hS (vp_in_nI hj (by omega)) hdg ?_
  rw [nI_clamp (by omega)]
  exact kk
theorem kz_slen (hx : p.tables.exec = Jvm.exec) (hb : c.code = cc) {b L : Nat} {xs : Nat → Int32} (hX : va_X b L xs s H0) (hbl : b < H0.size) (hbA : ¬ A b) (hS : va_S A H0 H locs) (hdg : decode cc pc = .ok (.arraylength, 1)) (kk : W p l e R s m args below meth c H locs cells slots Q (F0 m (pc + 1) ls (.int (iz (L : Int)) :: rest))) : W p l e R s m args below meth c H locs cells slots Q (F0 m pc ls (.ref b :: rest)) := va_slen hx hb hX hbl hbA hS hdg (by rw [iz_nI] at kk; exact kk)
theorem kz_and31 (hx : p.tables.exec = Jvm.exec) (hb : c.code = cc) {z : Int} (hdg : decode cc pc = .ok (.iand, 1)) (kk : W p l e R s m args below meth c H locs cells slots Q (F0 m (pc + 1) ls (.int (iz (z % 32)) :: rest))) : W p l e R s m args below meth c H locs cells slots Q (F0 m pc ls (.int (iz 31) :: .int (iz z) :: rest)) := lv_iand hx hb hdg (by rw [bt_and31]; exact kk)
theorem kz_icmp_eqT (hx : p.tables.exec = Jvm.exec) (hb : c.code = cc) {off : Int} {tgt : Nat} {a b : Int} (hdg : decode cc pc = .ok (.if_icmp .eq off, 3)) (ht : (pc : Int) + off = (tgt : Int)) (h : a = b) (kt : W p l e R s m args below meth c H locs cells slots Q (F0 m tgt ls rest)) : W p l e R s m args below meth c H locs cells slots Q (F0 m pc ls (.int (iz b) :: .int (iz a) :: rest)) := lv_icmp_eq hx hb hdg ht (fun _ => kt) (fun q => absurd (congrArg iz h) q)
end LK
/-- what the two have in common after j calls -/
def LR (j : Nat) (Z Wz : Nat → Int) (ve : Int) (P : Nat → Int) (n : Nat) (asd len : Int) (G S : Nat → Nat → Int) (Fp S2 Fl : Nat → Int) (M : Nat → Nat → Int) (Pl : Nat → Int) (fo sv : Int) : Prop := VL Z ∧ EL Z Wz ∧ VP P n ∧ (0 ≤ asd ∧ asd < 7) ∧ (0 ≤ len ∧ len ≤ 6) ∧ HR G asd len Fp ∧ SR S Fl S2 ∧ (0 ≤ ve ∧ ve ≤ 90000 * (j : Int)) ∧ SI Z ve M Pl fo sv
/-- a change, recorded unless it is an error -/
theorem HR.upd {G : Nat → Nat → Int} {asd len r : Int} {F X Z W : Nat → Int} (h : HR G asd len F) (ha : 0 ≤ asd ∧ asd < 7) (hl : 0 ≤ len ∧ len ≤ 6) (he : EL Z W) (hV : VL Z) {C : Prop} [Decidable C] (hC : C ↔ ¬ r < 0) : (HR (gup G asd.toNat (zmix 115 Z X)) (if r < 0 then asd else (asd + 1) % 7) (if r < 0 then len else min (len + 1) 6) (if C then rc_F F len (mz W) else F) ∧ (if C then rc_n len else len) = (if r < 0 then len else min (len + 1) 6)) ∧ (0 ≤ (if r < 0 then asd else (asd + 1) % 7) ∧ (if r < 0 then asd else (asd + 1) % 7) < 7) ∧ (0 ≤ (if r < 0 then len else min (len + 1) 6) ∧ (if r < 0 then len else min (len + 1) 6) ≤ 6) := by
  by_cases q : r < 0
  · rw [if_pos q, if_pos q, if_neg (fun w => hC.mp w q), if_neg (fun w => hC.mp w q)]
    exact ⟨⟨h.keep ha hl, rfl⟩, ha, hl⟩
  · rw [if_neg q, if_neg q, if_pos (hC.mpr q), if_pos (hC.mpr q)]
    exact ⟨⟨h.rec ha hl he hV, rc_n_min hl⟩, by omega, by omega⟩
theorem lc_price {Z W : Nat → Int} (he : EL Z W) (hV : VL Z) (a b : Int) : my_r W 1 a b = 0 ↔ ¬ lk_rAt 10 999 Z a b < 0 := by
  have h := my_price W a b
  rw [el_rAt he (by omega), h.1]
  have hm := my_r_rng W 1 a b
  have hV2 := VL_el he.symm hV
  split
  · rename_i q
    have hin : 0 ≤ a ∧ a < 24 := by
      unfold my_r at q
      split at q
      · assumption
      · omega
    have := (hV2.2.1 a.toNat (by omega)).1
    omega
  · omega
theorem lk_vAt_rng (mx a b ve : Int) : ve ≤ lk_vAt mx a b ve ∧ lk_vAt mx a b ve ≤ ve + 1 := by
  unfold lk_vAt
  split <;> omega
theorem lk_zAt_same {off : Nat} {mx : Int} {Z : Nat → Int} {a b ve : Int} (h : lk_vAt mx a b ve = ve) : lk_zAt off mx Z a b = Z := by
  unfold lk_vAt at h
  unfold lk_zAt
  split at h
  · omega
  · rename_i q
    rw [if_neg q]
