/-! a byte of a long, by a signed shift -/
theorem bt_ss (x : BitVec 64) {k : Nat} (hk : k ≤ 56) : x.sshiftRight k &&& 255#64 = (x >>> k) &&& 255#64 := by
  have h255 : ∀ j : Fin 64, 8 ≤ (j : Nat) → (255#64).getLsbD (j : Nat) = false := by decide
  apply BitVec.eq_of_getLsbD_eq
  intro j hj
  rw [BitVec.getLsbD_and, BitVec.getLsbD_and, BitVec.getLsbD_sshiftRight, BitVec.getLsbD_ushiftRight]
  by_cases h8 : j < 8
  · rw [if_pos (by omega), decide_eq_false (by omega)]
    simp
  · rw [h255 ⟨j, hj⟩ (by show 8 ≤ j; omega)]
    simp
theorem bt_sh63 : ∀ i : Fin 8, (((iz (8 * ((i : Nat) : Int))).toInt64 &&& 63).toBitVec.smod 64).toNat = 8 * (i : Nat) := by decide +kernel
theorem bt_byteS {w i : Nat} (hw : w < 18446744073709551616) (hi : i < 8) : (lN w >>> ((iz (8 * ((i : Nat) : Int))).toInt64 &&& 63)) &&& lN 255 = lN (w / 256 ^ i % 256) := by
  apply Int64.toBitVec_inj.mp
  rw [Int64.toBitVec_and, Int64.toBitVec_shiftRight]
  have e : ((lN w).toBitVec.sshiftRight' (((iz (8 * ((i : Nat) : Int))).toInt64 &&& 63).toBitVec.smod 64)) = (lN w).toBitVec.sshiftRight (8 * i) := congrArg (fun n => (lN w).toBitVec.sshiftRight n) (bt_sh63 ⟨i, hi⟩)
  rw [e]
  have e2 : (lN 255).toBitVec = 255#64 := rfl
  rw [e2, bt_ss _ (by omega)]
  apply BitVec.eq_of_toNat_eq
  rw [BitVec.toNat_and, BitVec.toNat_ushiftRight, Nat.shiftRight_eq_div_pow, bt_tn hw, bt_p256, bt_tn (by have := Nat.mod_lt (w / 256 ^ i) (show 0 < 256 by decide); omega)]
  exact Nat.and_two_pow_sub_one_eq_mod _ 8
section BZ
variable {p : Program} {l : Launch} {e : Env} {R : Room} {s : State} {m : MethodId} {args : Array Value} {below : List Frame} {meth : Method} {c : Code} {H : Heap} {locs : List Loc} {cells slots : Nat} {Q : State → Prop} {cc : ByteArray} {pc : Nat} {ls : Array Slot} {rest : List Value}
theorem kz_lshr (hx : p.tables.exec = Jvm.exec) (hb : c.code = cc) {a i : Nat} (hdg : decode cc pc = .ok (.lshr, 1)) (k : W p l e R s m args below meth c H locs cells slots Q (F0 m (pc + 1) ls (.long (lN a >>> ((iz (8 * ((i : Nat) : Int))).toInt64 &&& 63)) :: rest))) : W p l e R s m args below meth c H locs cells slots Q (F0 m pc ls (.int (iz (8 * ((i : Nat) : Int))) :: .long (lN a) :: rest)) := lv_lshr hx hb hdg rfl k
theorem kz_landS (hx : p.tables.exec = Jvm.exec) (hb : c.code = cc) {a i : Nat} (ha : a < 18446744073709551616) (hi : i < 8) (hdg : decode cc pc = .ok (.land, 1)) (k : W p l e R s m args below meth c H locs cells slots Q (F0 m (pc + 1) ls (.long (lN (a / 256 ^ i % 256)) :: rest))) : W p l e R s m args below meth c H locs cells slots Q (F0 m pc ls (.long (lN 255) :: .long (lN a >>> ((iz (8 * ((i : Nat) : Int))).toInt64 &&& 63)) :: rest)) := lv_land hx hb hdg (by rw [bt_byteS ha hi]; exact k)
end BZ
theorem bt_dvs (w m : Nat) : w / 256 ^ (m + 1) = w / 256 ^ m / 256 := by rw [Nat.div_div_eq_div_mul, Nat.pow_succ]
theorem bt_dv8 {w : Nat} (hw : w < 18446744073709551616) : w / 256 ^ 8 = 0 := Nat.div_eq_of_lt (by omega)
