/-! how many bits there are -/
theorem bt_ushrI {n : Nat} (hn : n < 4294967296) (k : Nat) (hk : k < 32) : ((iz (n : Int)).toUInt32 >>> ((iz (k : Int)).toUInt32 &&& Int32.toUInt32 31)).toInt32 = iz ((n / 2 ^ k : Nat) : Int) := by
  rw [iz_nI, iz_nI, iz_nI]
  refine pk_ushrN hn _ k ?_
  have h : ∀ i : Fin 32, (((nI (i : Nat)).toUInt32 &&& Int32.toUInt32 31).toBitVec % 32).toNat = (i : Nat) := by decide +kernel
  exact h ⟨k, hk⟩
theorem bt_andI {a b : Nat} (ha : a < 4294967296) (hb : b < 4294967296) : iz (a : Int) &&& iz (b : Int) = iz ((a &&& b : Nat) : Int) := by
  rw [iz_nI, iz_nI, iz_nI]
  apply Int32.toBitVec_inj.mp
  apply BitVec.eq_of_toNat_eq
  rw [Int32.toBitVec_and, BitVec.toNat_and, pk_tn ha, pk_tn hb, pk_tn (Nat.lt_of_le_of_lt Nat.and_le_left ha)]
theorem bt_orI {a n : Nat} (ha : a < 2 ^ n) (hn : n < 24) : iz (a : Int) ||| iz ((2 ^ n : Nat) : Int) = iz ((a + 2 ^ n : Nat) : Int) := by
  have h : 2 ^ n ≤ 2 ^ 23 := Nat.pow_le_pow_right (by decide) (by omega)
  rw [iz_nI, iz_nI, iz_nI]
  apply Int32.toBitVec_inj.mp
  apply BitVec.eq_of_toNat_eq
  rw [Int32.toBitVec_or, BitVec.toNat_or, pk_tn (by omega), pk_tn (by omega), pk_tn (by omega), Nat.or_comm]
  have := Nat.two_pow_add_eq_or_of_lt ha 1
  rw [Nat.mul_one] at this
  omega
theorem bt_shl1 {n : Nat} (hn : n < 24) : iz 1 <<< (iz ((n : Nat) : Int) &&& 31) = iz ((2 ^ n : Nat) : Int) := by
  have h : ∀ i : Fin 24, iz 1 <<< (iz ((i : Nat) : Int) &&& 31) = iz ((2 ^ (i : Nat) : Nat) : Int) := by decide +kernel
  exact h ⟨n, hn⟩
section BV
variable {p : Program} {l : Launch} {e : Env} {R : Room} {s : State} {m : MethodId} {args : Array Value} {below : List Frame} {meth : Method} {c : Code} {H : Heap} {locs : List Loc} {cells slots : Nat} {Q : State → Prop} {cc : ByteArray} {pc : Nat} {ls : Array Slot} {rest : List Value}
theorem kz_iushr (hx : p.tables.exec = Jvm.exec) (hb : c.code = cc) {a k : Nat} (ha : a < 4294967296) (hk : k < 32) (hdg : decode cc pc = .ok (.iushr, 1)) (kk : W p l e R s m args below meth c H locs cells slots Q (F0 m (pc + 1) ls (.int (iz ((a / 2 ^ k : Nat) : Int)) :: rest))) : W p l e R s m args below meth c H locs cells slots Q (F0 m pc ls (.int (iz (k : Int)) :: .int (iz (a : Int)) :: rest)) := lv_iushr hx hb hdg (bt_ushrI ha k hk) kk
theorem kz_iand (hx : p.tables.exec = Jvm.exec) (hb : c.code = cc) {a b : Nat} (ha : a < 4294967296) (hbb : b < 4294967296) (hdg : decode cc pc = .ok (.iand, 1)) (kk : W p l e R s m args below meth c H locs cells slots Q (F0 m (pc + 1) ls (.int (iz ((a &&& b : Nat) : Int)) :: rest))) : W p l e R s m args below meth c H locs cells slots Q (F0 m pc ls (.int (iz (b : Int)) :: .int (iz (a : Int)) :: rest)) := lv_iand hx hb hdg (by rw [bt_andI ha hbb]; exact kk)
theorem kz_ior (hx : p.tables.exec = Jvm.exec) (hb : c.code = cc) {a n : Nat} (ha : a < 2 ^ n) (hn : n < 24) (hdg : decode cc pc = .ok (.ior, 1)) (kk : W p l e R s m args below meth c H locs cells slots Q (F0 m (pc + 1) ls (.int (iz ((a + 2 ^ n : Nat) : Int)) :: rest))) : W p l e R s m args below meth c H locs cells slots Q (F0 m pc ls (.int (iz ((2 ^ n : Nat) : Int)) :: .int (iz (a : Int)) :: rest)) := lv_ior hx hb hdg (by rw [bt_orI ha hn]; exact kk)
theorem kz_shl1 (hx : p.tables.exec = Jvm.exec) (hb : c.code = cc) {n : Nat} (hn : n < 24) (hdg : decode cc pc = .ok (.ishl, 1)) (kk : W p l e R s m args below meth c H locs cells slots Q (F0 m (pc + 1) ls (.int (iz ((2 ^ n : Nat) : Int)) :: rest))) : W p l e R s m args below meth c H locs cells slots Q (F0 m pc ls (.int (iz (n : Int)) :: .int (iz 1) :: rest)) := lv_ishl hx hb hdg (by rw [bt_shl1 hn]; exact kk)
end BV
def pc1 (b : Nat) : Nat := b - (b / 2 &&& 1431655765)
def pc2 (i : Nat) : Nat := (i &&& 858993459) + (i / 4 &&& 858993459)
def pc3 (i : Nat) : Nat := (i + i / 16) &&& 252645135
def pc4 (i : Nat) : Nat := i + i / 256
def pc5 (i : Nat) : Nat := i + i / 65536
def pcB (b : Nat) : Nat := pc5 (pc4 (pc3 (pc2 (pc1 b)))) &&& 63
def ct8 (a : Nat) : Nat := a % 2 + a / 2 % 2 + a / 4 % 2 + a / 8 % 2 + a / 16 % 2 + a / 32 % 2 + a / 64 % 2 + a / 128 % 2
theorem bt_and8 (x m : Nat) : x &&& m = (x % 256 &&& m % 256) + 256 * (x / 256 &&& m / 256) := by
  have h1 : (x &&& m) % 2 ^ 8 = x % 2 ^ 8 &&& m % 2 ^ 8 := Nat.and_mod_two_pow
  have h2 : (x &&& m) / 2 ^ 8 = x / 2 ^ 8 &&& m / 2 ^ 8 := Nat.and_div_two_pow
  have h3 := Nat.mod_add_div (x &&& m) 256
  rw [show (256 : Nat) = 2 ^ 8 by decide] at *
  omega
theorem bt_and24 {x m k : Nat} (hx : x < 16777216) (h0 : m % 256 = k) (h1 : m / 256 % 256 = k) (h2 : m / 256 / 256 % 256 = k) : x &&& m = (x % 256 &&& k) + 256 * (x / 256 % 256 &&& k) + 65536 * (x / 65536 &&& k) := by
  rw [bt_and8 x m, bt_and8 (x / 256) (m / 256), bt_and8 (x / 256 / 256) (m / 256 / 256), h0, h1, h2, show x / 256 / 256 / 256 = 0 by omega, Nat.zero_and, show x / 256 / 256 % 256 = x / 65536 by omega]
  omega
theorem bt_b1 : ∀ a : Fin 256, ((a : Nat) / 2 &&& 85) ≤ (a : Nat) ∧ ∀ e : Fin 2, ((a : Nat) / 2 + 128 * (e : Nat)) &&& 85 = (a : Nat) / 2 &&& 85 := by decide +kernel
theorem bt_b2 : ∀ p : Fin 256, ∀ e : Fin 4, ((p : Nat) / 4 + 64 * (e : Nat)) &&& 51 = (p : Nat) / 4 &&& 51 := by decide +kernel
theorem bt_b3 : ∀ a : Fin 256, (((a : Nat) - ((a : Nat) / 2 &&& 85)) &&& 51) + (((a : Nat) - ((a : Nat) / 2 &&& 85)) / 4 &&& 51) ≤ 68 ∧ ((((a : Nat) - ((a : Nat) / 2 &&& 85)) &&& 51) + (((a : Nat) - ((a : Nat) / 2 &&& 85)) / 4 &&& 51)) % 16 ≤ 4 ∧ ((((a : Nat) - ((a : Nat) / 2 &&& 85)) &&& 51) + (((a : Nat) - ((a : Nat) / 2 &&& 85)) / 4 &&& 51)) % 16 + ((((a : Nat) - ((a : Nat) / 2 &&& 85)) &&& 51) + (((a : Nat) - ((a : Nat) / 2 &&& 85)) / 4 &&& 51)) / 16 = ct8 (a : Nat) := by decide +kernel
def pb1 (a : Nat) : Nat := a - (a / 2 &&& 85)
def pb2 (p : Nat) : Nat := (p &&& 51) + (p / 4 &&& 51)
theorem bt_l3 {a b c : Nat} (ha : a < 256) (hb : b < 256) : (a + 256 * b + 65536 * c) % 256 = a ∧ (a + 256 * b + 65536 * c) / 256 % 256 = b ∧ (a + 256 * b + 65536 * c) / 65536 = c := by omega
theorem pc1_eq {a b c : Nat} (ha : a < 256) (hb : b < 256) (hc : c < 256) : pc1 (a + 256 * b + 65536 * c) = pb1 a + 256 * pb1 b + 65536 * pb1 c := by
  have h1 := bt_b1 ⟨a, ha⟩
  have h2 := bt_b1 ⟨b, hb⟩
  have h3 := bt_b1 ⟨c, hc⟩
  have q1 := h1.2 ⟨b % 2, by omega⟩
  have q2 := h2.2 ⟨c % 2, by omega⟩
  simp only at h1 h2 h3 q1 q2
  unfold pc1 pb1
  rw [bt_and24 (k := 85) (by omega) (by decide) (by decide) (by decide), show (a + 256 * b + 65536 * c) / 2 % 256 = a / 2 + 128 * (b % 2) by omega, show (a + 256 * b + 65536 * c) / 2 / 256 % 256 = b / 2 + 128 * (c % 2) by omega, show (a + 256 * b + 65536 * c) / 2 / 65536 = c / 2 by omega, q1, q2]
  omega
theorem pc2_eq {a b c : Nat} (ha : a < 256) (hb : b < 256) (hc : c < 256) : pc2 (a + 256 * b + 65536 * c) = pb2 a + 256 * pb2 b + 65536 * pb2 c := by
  have q1 := bt_b2 ⟨a, ha⟩ ⟨b % 4, by omega⟩
  have q2 := bt_b2 ⟨b, hb⟩ ⟨c % 4, by omega⟩
  simp only at q1 q2
  have l := bt_l3 (c := c) ha hb
  unfold pc2 pb2
  rw [bt_and24 (k := 51) (by omega) (by decide) (by decide) (by decide), bt_and24 (x := (a + 256 * b + 65536 * c) / 4) (k := 51) (by omega) (by decide) (by decide) (by decide), l.1, l.2.1, l.2.2, show (a + 256 * b + 65536 * c) / 4 % 256 = a / 4 + 64 * (b % 4) by omega, show (a + 256 * b + 65536 * c) / 4 / 256 % 256 = b / 4 + 64 * (c % 4) by omega, show (a + 256 * b + 65536 * c) / 4 / 65536 = c / 4 by omega, q1, q2]
  omega
theorem bt_m16 {a d : Nat} (ha : a ≤ 68 ∧ a % 16 ≤ 4) : (a + a / 16 + 16 * d) % 16 = a % 16 + a / 16 := by omega
theorem bt_sum {x y z : Nat} (hx : x ≤ 8) (hy : y ≤ 8) (hz : z ≤ 8) : pc5 (pc4 (x + 256 * y + 65536 * z)) % 64 = x + y + z := by
  have e4 : pc4 (x + 256 * y + 65536 * z) = (x + y) + 256 * (y + z) + 65536 * z := by
    unfold pc4
    omega
  have e5 : pc5 ((x + y) + 256 * (y + z) + 65536 * z) = (x + y + z) + 64 * (4 * (y + z) + 1024 * z) := by
    unfold pc5
    omega
  rw [e4, e5]
  omega
theorem pc3_eq {a b c : Nat} (ha : a ≤ 68 ∧ a % 16 ≤ 4) (hb : b ≤ 68 ∧ b % 16 ≤ 4) (hc : c ≤ 68 ∧ c % 16 ≤ 4) : pc3 (a + 256 * b + 65536 * c) = (a % 16 + a / 16) + 256 * (b % 16 + b / 16) + 65536 * (c % 16 + c / 16) := by
  have e15 : ∀ x : Nat, x &&& 15 = x % 16 := fun x => Nat.and_two_pow_sub_one_eq_mod x 4
  have e : (a + 256 * b + 65536 * c) + (a + 256 * b + 65536 * c) / 16 = (a + a / 16 + 16 * (b % 16)) + 256 * (b + b / 16 + 16 * (c % 16)) + 65536 * (c + c / 16) := by omega
  have l := bt_l3 (a := a + a / 16 + 16 * (b % 16)) (b := b + b / 16 + 16 * (c % 16)) (c := c + c / 16) (by omega) (by omega)
  unfold pc3
  rw [e, bt_and24 (k := 15) (by omega) (by decide) (by decide) (by decide), l.1, l.2.1, l.2.2, e15, e15, e15, bt_m16 ha, bt_m16 hb, show c + c / 16 = c + c / 16 + 16 * 0 by omega, bt_m16 hc]
theorem pcB_eq {b : Nat} (hb : b < 16777216) : pcB b = ct8 (b % 256) + ct8 (b / 256 % 256) + ct8 (b / 65536) := by
  have e : b = b % 256 + 256 * (b / 256 % 256) + 65536 * (b / 65536) := by omega
  have h0 := bt_b3 ⟨b % 256, by omega⟩
  have h1 := bt_b3 ⟨b / 256 % 256, by omega⟩
  have h2 := bt_b3 ⟨b / 65536, by omega⟩
  have k0 : pb2 (pb1 (b % 256)) ≤ 68 ∧ pb2 (pb1 (b % 256)) % 16 ≤ 4 ∧ pb2 (pb1 (b % 256)) % 16 + pb2 (pb1 (b % 256)) / 16 = ct8 (b % 256) := h0
  have k1 : pb2 (pb1 (b / 256 % 256)) ≤ 68 ∧ pb2 (pb1 (b / 256 % 256)) % 16 ≤ 4 ∧ pb2 (pb1 (b / 256 % 256)) % 16 + pb2 (pb1 (b / 256 % 256)) / 16 = ct8 (b / 256 % 256) := h1
  have k2 : pb2 (pb1 (b / 65536)) ≤ 68 ∧ pb2 (pb1 (b / 65536)) % 16 ≤ 4 ∧ pb2 (pb1 (b / 65536)) % 16 + pb2 (pb1 (b / 65536)) / 16 = ct8 (b / 65536) := h2
  have e63 : ∀ x : Nat, x &&& 63 = x % 64 := fun x => Nat.and_two_pow_sub_one_eq_mod x 6
  have j0 : pb1 (b % 256) < 256 := Nat.lt_of_le_of_lt (Nat.sub_le _ _) (by omega)
  have j1 : pb1 (b / 256 % 256) < 256 := Nat.lt_of_le_of_lt (Nat.sub_le _ _) (by omega)
  have j2 : pb1 (b / 65536) < 256 := Nat.lt_of_le_of_lt (Nat.sub_le _ _) (by omega)
  have s1 : pc1 b = pb1 (b % 256) + 256 * pb1 (b / 256 % 256) + 65536 * pb1 (b / 65536) := (congrArg pc1 e).trans (pc1_eq (by omega) (by omega) (by omega))
  unfold pcB
  rw [s1, pc2_eq j0 j1 j2, pc3_eq ⟨k0.1, k0.2.1⟩ ⟨k1.1, k1.2.1⟩ ⟨k2.1, k2.2.1⟩, k0.2.2, k1.2.2, k2.2.2, e63]
  have b0 : ct8 (b % 256) ≤ 8 := by have := k0.1; have := k0.2; omega
  have b1 : ct8 (b / 256 % 256) ≤ 8 := by have := k1.1; have := k1.2; omega
  have b2 : ct8 (b / 65536) ≤ 8 := by have := k2.1; have := k2.2; omega
  exact bt_sum b0 b1 b2
/-! the set of the hours with a trouble, and how many they are -/
def sb (F : Nat → Int) (t : Int) : Nat → Nat
  | 0 => 0
  | n + 1 => sb F t n + (if F n = t then 2 ^ n else 0)
def nb (F : Nat → Int) (t : Int) : Nat → Nat
  | 0 => 0
  | n + 1 => nb F t n + (if F n = t then 1 else 0)
theorem sb_lt (F : Nat → Int) (t : Int) : ∀ n : Nat, sb F t n < 2 ^ n
  | 0 => Nat.zero_lt_one
  | n + 1 => by
    have := sb_lt F t n
    unfold sb
    rw [Nat.pow_succ]
    split <;> omega
theorem ct8_e {a b c d e f g h : Nat} (ha : a ≤ 1) (hb : b ≤ 1) (hc : c ≤ 1) (hd : d ≤ 1) (he : e ≤ 1) (hf : f ≤ 1) (hg : g ≤ 1) (hh : h ≤ 1) : ct8 (a + 2 * b + 4 * c + 8 * d + 16 * e + 32 * f + 64 * g + 128 * h) = a + b + c + d + e + f + g + h := by
  unfold ct8
  omega
theorem sb_ev (F : Nat → Int) (t : Int) (n m : Nat) (hm : m = n + 1) : ∃ e : Nat, e ≤ 1 ∧ sb F t m = sb F t n + e * 2 ^ n ∧ nb F t m = nb F t n + e := by
  subst hm
  by_cases h : F n = t
  · exact ⟨1, Nat.le_refl _, by show _ + (if F n = t then _ else _) = _; rw [if_pos h, Nat.one_mul], by show _ + (if F n = t then _ else _) = _; rw [if_pos h]⟩
  · exact ⟨0, Nat.zero_le _, by show _ + (if F n = t then _ else _) = _; rw [if_neg h, Nat.zero_mul], by show _ + (if F n = t then _ else _) = _; rw [if_neg h]⟩
theorem sb_8 (F : Nat → Int) (t : Int) (n m k : Nat) (hm : m = n + 8) (hk : 2 ^ n = k) : ∃ x : Nat, x < 256 ∧ sb F t m = sb F t n + k * x ∧ nb F t m = nb F t n + ct8 x := by
  subst hm
  obtain ⟨a, ha, a1, a2⟩ := sb_ev F t n (n + 1) rfl
  obtain ⟨b, hb, b1, b2⟩ := sb_ev F t (n + 1) (n + 2) rfl
  obtain ⟨c, hc, c1, c2⟩ := sb_ev F t (n + 2) (n + 3) rfl
  obtain ⟨d, hd, d1, d2⟩ := sb_ev F t (n + 3) (n + 4) rfl
  obtain ⟨e, he, e1, e2⟩ := sb_ev F t (n + 4) (n + 5) rfl
  obtain ⟨f, hf, f1, f2⟩ := sb_ev F t (n + 5) (n + 6) rfl
  obtain ⟨g, hg, g1, g2⟩ := sb_ev F t (n + 6) (n + 7) rfl
  obtain ⟨h, hh, h1, h2⟩ := sb_ev F t (n + 7) (n + 8) rfl
  refine ⟨a + 2 * b + 4 * c + 8 * d + 16 * e + 32 * f + 64 * g + 128 * h, by omega, ?_, by rw [ct8_e ha hb hc hd he hf hg hh]; omega⟩
  have p1 : 2 ^ (n + 1) = k * 2 := by rw [Nat.pow_add, hk]
  have p2 : 2 ^ (n + 2) = k * 4 := by rw [Nat.pow_add, hk]
  have p3 : 2 ^ (n + 3) = k * 8 := by rw [Nat.pow_add, hk]
  have p4 : 2 ^ (n + 4) = k * 16 := by rw [Nat.pow_add, hk]
  have p5 : 2 ^ (n + 5) = k * 32 := by rw [Nat.pow_add, hk]
  have p6 : 2 ^ (n + 6) = k * 64 := by rw [Nat.pow_add, hk]
  have p7 : 2 ^ (n + 7) = k * 128 := by rw [Nat.pow_add, hk]
  rw [hk] at a1
  rw [p1] at b1
  rw [p2] at c1
  rw [p3] at d1
  rw [p4] at e1
  rw [p5] at f1
  rw [p6] at g1
  rw [p7] at h1
  rw [h1, g1, f1, e1, d1, c1, b1, a1]
  simp only [Nat.mul_add, Nat.mul_comm, Nat.mul_left_comm, Nat.add_assoc]
theorem sb_pc (F : Nat → Int) (t : Int) : pcB (sb F t 24) = nb F t 24 := by
  obtain ⟨x, hx, x1, x2⟩ := sb_8 F t 0 8 1 rfl rfl
  obtain ⟨y, hy, y1, y2⟩ := sb_8 F t 8 16 256 rfl rfl
  obtain ⟨z, hz, z1, z2⟩ := sb_8 F t 16 24 65536 rfl rfl
  have e0 : sb F t 0 = 0 := rfl
  have n0 : nb F t 0 = 0 := rfl
  have e : sb F t 24 = x + 256 * y + 65536 * z := by omega
  have l := bt_l3 (c := z) hx hy
  rw [pcB_eq (sb_lt F t 24), e, l.1, l.2.1, l.2.2]
  omega
theorem sb_y {F : Nat → Int} {t : Int} {n : Nat} (h : F n = t) : sb F t (n + 1) = sb F t n + 2 ^ n := congrArg (fun q => sb F t n + q) (if_pos h)
theorem sb_n {F : Nat → Int} {t : Int} {n : Nat} (h : F n ≠ t) : sb F t (n + 1) = sb F t n := congrArg (fun q => sb F t n + q) (if_neg h)
