/-! longs that are naturals below 2^64; bits -/
theorem bt_tn {n : Nat} (h : n < 18446744073709551616) : (lN n).toBitVec.toNat = n := Nat.mod_eq_of_lt h
theorem bt_land {a : Nat} (h : a < 18446744073709551616) : lN a &&& lN 255 = lN (a % 256) := by
  apply Int64.toBitVec_inj.mp
  apply BitVec.eq_of_toNat_eq
  rw [Int64.toBitVec_and, BitVec.toNat_and, bt_tn h, bt_tn (by omega), bt_tn (by omega)]
  exact Nat.and_two_pow_sub_one_eq_mod a 8
theorem bt_ushr (x : Int64) (s : Int32) (k : Nat) (hs : ((s.toInt64.toUInt64 &&& Int64.toUInt64 63).toBitVec % 64).toNat = k) : (x.toUInt64 >>> (s.toInt64.toUInt64 &&& Int64.toUInt64 63)).toInt64.toBitVec.toNat = x.toBitVec.toNat / 2 ^ k := by
  have e : (x.toUInt64 >>> (s.toInt64.toUInt64 &&& Int64.toUInt64 63)).toInt64.toBitVec = x.toBitVec >>> k := by
    rw [← hs]
    exact UInt64.toBitVec_shiftRight _ _
  rw [e, BitVec.toNat_ushiftRight, Nat.shiftRight_eq_div_pow]
theorem bt_ushrN {n : Nat} (hn : n < 18446744073709551616) (s : Int32) (k : Nat) (hs : ((s.toInt64.toUInt64 &&& Int64.toUInt64 63).toBitVec % 64).toNat = k) : ((lN n).toUInt64 >>> (s.toInt64.toUInt64 &&& Int64.toUInt64 63)).toInt64 = lN (n / 2 ^ k) := by
  apply Int64.toBitVec_inj.mp
  apply BitVec.eq_of_toNat_eq
  rw [bt_ushr _ s k hs, bt_tn hn, bt_tn (Nat.lt_of_le_of_lt (Nat.div_le_self _ _) hn)]
theorem bt_sh8 : ∀ i : Fin 8, (((iz (8 * ((i : Nat) : Int))).toInt64.toUInt64 &&& Int64.toUInt64 63).toBitVec % 64).toNat = 8 * (i : Nat) := by decide +kernel
theorem bt_p256 (i : Nat) : 2 ^ (8 * i) = 256 ^ i := by rw [Nat.pow_mul]
def ncmp (a b : Nat) : Int := if a < b then -1 else if b < a then 1 else 0
theorem ncmp_spec (a b : Nat) : a < b ∧ ncmp a b = -1 ∨ b < a ∧ ncmp a b = 1 ∨ a = b ∧ ncmp a b = 0 := by
  unfold ncmp
  split
  · omega
  · split <;> omega
theorem bt_cmp {a b : Nat} (ha : a < 9223372036854775808) (hb : b < 9223372036854775808) : lg_cmp (lN a) (lN b) = iz (ncmp a b) := by
  have h1 := pk_lLT (a := a) (b := b) ha hb
  have h2 := pk_lLT (a := b) (b := a) hb ha
  have h3 := pk_lEQ (a := a) (b := b) ha hb
  rcases ncmp_spec a b with ⟨h, e⟩ | ⟨h, e⟩ | ⟨h, e⟩
  · rw [e]; simp [lg_cmp, h1, h2, h3, show ¬ b < a by omega, show ¬ a = b by omega, h]; decide
  · rw [e]; simp [lg_cmp, h1, h2, h]; decide
  · rw [e, h]; simp [lg_cmp]; decide
theorem bt_l2i (a : Nat) : (lN a).toInt32 = iz ((a : Nat) : Int) := (lN_i a).trans (iz_nI a).symm
theorem bt_i2c {z : Int} (h : 0 ≤ z ∧ z < 65536) : ((iz z).toUInt32 % 65536).toInt32 = iz z := by
  obtain ⟨n, rfl⟩ : ∃ n : Nat, z = (n : Int) := ⟨z.toNat, by omega⟩
  rw [iz_nI, pk_char, pk_tn (by omega), Nat.mod_eq_of_lt (by omega)]
section BT
variable {p : Program} {l : Launch} {e : Env} {R : Room} {s : State} {m : MethodId} {args : Array Value} {below : List Frame} {meth : Method} {c : Code} {H : Heap} {locs : List Loc} {cells slots : Nat} {Q : State → Prop} {cc : ByteArray} {pc : Nat} {ls : Array Slot} {rest : List Value}
theorem kz_land (hx : p.tables.exec = Jvm.exec) (hb : c.code = cc) {a : Nat} (ha : a < 18446744073709551616) (hdg : decode cc pc = .ok (.land, 1)) (k : W p l e R s m args below meth c H locs cells slots Q (F0 m (pc + 1) ls (.long (lN (a % 256)) :: rest))) : W p l e R s m args below meth c H locs cells slots Q (F0 m pc ls (.long (lN 255) :: .long (lN a) :: rest)) := lv_land hx hb hdg (by rw [bt_land ha]; exact k)
theorem kz_lushr (hx : p.tables.exec = Jvm.exec) (hb : c.code = cc) {a i : Nat} (ha : a < 18446744073709551616) (hi : i < 8) (hdg : decode cc pc = .ok (.lushr, 1)) (k : W p l e R s m args below meth c H locs cells slots Q (F0 m (pc + 1) ls (.long (lN (a / 256 ^ i)) :: rest))) : W p l e R s m args below meth c H locs cells slots Q (F0 m pc ls (.int (iz (8 * ((i : Nat) : Int))) :: .long (lN a) :: rest)) := lv_lushr (v := lN (a / 256 ^ i)) hx hb hdg ((bt_ushrN ha _ (8 * i) (bt_sh8 ⟨i, hi⟩)).trans (by rw [bt_p256])) k
theorem kz_lushr8 (hx : p.tables.exec = Jvm.exec) (hb : c.code = cc) {a : Nat} (ha : a < 18446744073709551616) (hdg : decode cc pc = .ok (.lushr, 1)) (k : W p l e R s m args below meth c H locs cells slots Q (F0 m (pc + 1) ls (.long (lN (a / 256)) :: rest))) : W p l e R s m args below meth c H locs cells slots Q (F0 m pc ls (.int (iz 8) :: .long (lN a) :: rest)) := lv_lushr (v := lN (a / 256)) hx hb hdg (bt_ushrN ha _ 8 (by decide +kernel)) k
theorem kz_lcmp (hx : p.tables.exec = Jvm.exec) (hb : c.code = cc) {a b : Nat} (ha : a < 9223372036854775808) (hbb : b < 9223372036854775808) (hdg : decode cc pc = .ok (.lcmp, 1)) (k : W p l e R s m args below meth c H locs cells slots Q (F0 m (pc + 1) ls (.int (iz (ncmp a b)) :: rest))) : W p l e R s m args below meth c H locs cells slots Q (F0 m pc ls (.long (lN b) :: .long (lN a) :: rest)) := W.lcmp hx hb hdg (by rw [bt_cmp ha hbb]; exact k)
end BT
section BU
variable {p : Program} {l : Launch} {e : Env} {R : Room} {s : State} {m : MethodId} {args : Array Value} {below : List Frame} {meth : Method} {c : Code} {H : Heap} {locs : List Loc} {cells slots : Nat} {Q : State → Prop}
variable {cc : ByteArray} {pc : Nat} {ls : Array Slot} {rest st0 : List Value} {D : va_G} {A : Nat → Prop} {H0 : Heap} {T : Nat → ClassId}
theorem kz_cast (hx : p.tables.exec = Jvm.exec) (hb : c.code = cc) (hK : kK D T s) {ws : va_W} (hP : va_P D vwCl ws H) (hD : va_D A ws) (hS : va_S A H0 H locs) (q0 : Nat) {a n : Nat} {Z : Nat → Int} (ha : ws[q0]? = some (a, .inl (T 3, n, .inl (zA Z)))) (j : Nat) {i x : Int} (hi : i = (j : Int)) (hj : j < n) (hn : n ≤ 1000000) (hz : 0 ≤ x ∧ x < 65536) (hdg : decode cc pc = .ok (.castore, 1)) (kk : ∀ (H1 : Heap) (locs1 : List Loc), va_P D vwCl (ws.set q0 (a, .inl (T 3, n, .inl (zA (zup Z j x))))) H1 → va_D A (ws.set q0 (a, .inl (T 3, n, .inl (zA (zup Z j x))))) → va_S A H0 H1 locs1 → W p l e R s m args below meth c H1 locs1 cells slots Q (F0 m (pc + 1) ls rest)) : W p l e R s m args below meth c H locs cells slots Q (F0 m pc ls (.int (iz x) :: .int (iz i) :: .ref a :: rest)) := k_cast hx hb hK hP hD hS q0 ha j (by rw [hi, iz_nI]) hj hn (Value.int.inj (kz_narC hz).1) hdg (by rw [zA_up]; exact kk)
end BU
/-! eight signs in a long -/
def ap_N : Nat → Nat → Nat
  | 0, _ => 0
  | k + 1, v => if v % 256 = 0 then 0 else ap_N k (v / 256) + 1
def ap_G : Nat → Nat → Bool
  | 0, _ => true
  | k + 1, v => if v % 256 = 0 then true else if 33 ≤ v % 256 ∧ v % 256 ≤ 126 then ap_G k (v / 256) else false
def ap_t (w : Nat) : Int := if ap_G 8 w = true ∧ 0 < ap_N 8 w ∧ w / 256 ^ ap_N 8 w = 0 then (ap_N 8 w : Int) else -2
def ap_r (w n : Nat) : Int := if ap_t w < 0 then -2 else if 80 < (n : Int) + ap_t w then -4 else (n : Int) + ap_t w
def apP (w : Nat) (P : Nat → Int) (n K j : Nat) : Nat → Int := fun x => if n ≤ x ∧ x < n + j then ((w / 256 ^ (K - 1 - (x - n)) % 256 : Nat) : Int) else P x
abbrev ap_y (w n : Nat) : Prop := 0 ≤ ap_t w ∧ (n : Int) + ap_t w ≤ 80
def apS (w : Nat) (P : Nat → Int) (n : Nat) : Nat → Int := if ap_y w n then apP w P n (ap_N 8 w) (ap_N 8 w) else P
def apL (w n : Nat) : Nat := if ap_y w n then n + ap_N 8 w else n
theorem ap_Nz {k v : Nat} (h : v % 256 = 0) : ap_N k v = 0 := by
  cases k with
  | zero => rfl
  | succ k => exact if_pos h
theorem ap_Gz {k v : Nat} (h : v % 256 = 0) : ap_G k v = true := by
  cases k with
  | zero => rfl
  | succ k => exact if_pos h
theorem ap_Ns {k v : Nat} (h : v % 256 ≠ 0) : ap_N (k + 1) v = ap_N k (v / 256) + 1 := if_neg h
theorem ap_Gs {k v : Nat} (h : v % 256 ≠ 0) (h2 : 33 ≤ v % 256 ∧ v % 256 ≤ 126) : ap_G (k + 1) v = ap_G k (v / 256) := by
  show (if v % 256 = 0 then true else if 33 ≤ v % 256 ∧ v % 256 ≤ 126 then ap_G k (v / 256) else false) = _
  rw [if_neg h, if_pos h2]
theorem ap_Gb {k v : Nat} (h : v % 256 ≠ 0) (h2 : ¬ (33 ≤ v % 256 ∧ v % 256 ≤ 126)) : ap_G (k + 1) v = false := by
  show (if v % 256 = 0 then true else if 33 ≤ v % 256 ∧ v % 256 ≤ 126 then ap_G k (v / 256) else false) = _
  rw [if_neg h, if_neg h2]
theorem ap_Nle : ∀ k v : Nat, ap_N k v ≤ k
  | 0, _ => Nat.le_refl 0
  | k + 1, v => by
    have := ap_Nle k (v / 256)
    unfold ap_N
    split <;> omega
theorem ap_tb {w : Nat} (h : ap_G 8 w = false ∨ ap_N 8 w = 0 ∨ w / 256 ^ ap_N 8 w ≠ 0) : ap_t w = -2 := if_neg (fun q => by
  rcases h with h | h | h
  · rw [h] at q; exact Bool.noConfusion q.1
  · omega
  · exact h q.2.2)
theorem ap_to {w : Nat} (h1 : ap_G 8 w = true) (h2 : 0 < ap_N 8 w) (h3 : w / 256 ^ ap_N 8 w = 0) : ap_t w = (ap_N 8 w : Int) := if_pos ⟨h1, h2, h3⟩
theorem apL_y {w n : Nat} (h : ap_y w n) : apL w n = n + ap_N 8 w := if_pos h
theorem apL_n {w n : Nat} (h : ¬ ap_y w n) : apL w n = n := if_neg h
theorem apS_y {w n : Nat} {P : Nat → Int} (h : ap_y w n) : apS w P n = apP w P n (ap_N 8 w) (ap_N 8 w) := if_pos h
theorem apS_n {w n : Nat} {P : Nat → Int} (h : ¬ ap_y w n) : apS w P n = P := if_neg h
theorem apP_0 (w : Nat) (P : Nat → Int) (n K : Nat) : P = apP w P n K (K - K) := by
  funext x
  exact (if_neg (by omega)).symm
theorem apP_s {w : Nat} {P : Nat → Int} {n K i : Nat} (h : 0 < i) (h2 : i ≤ K) : zup (apP w P n K (K - i)) (n + (K - i)) ((w / 256 ^ (i - 1) % 256 : Nat) : Int) = apP w P n K (K - (i - 1)) := by
  funext x
  unfold zup apP
  by_cases e : x = n + (K - i)
  · subst e
    rw [if_pos rfl, if_pos (by omega), show K - 1 - (n + (K - i) - n) = i - 1 by omega]
  · rw [if_neg e]
    by_cases q : n ≤ x ∧ x < n + (K - i)
    · rw [if_pos q, if_pos (by omega)]
    · rw [if_neg q, if_neg (by omega)]
