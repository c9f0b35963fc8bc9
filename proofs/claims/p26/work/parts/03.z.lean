/-! ints as Int: iz z is the int of z -/
def iz (z : Int) : Int32 := Int32.ofInt z
def zA (Z : Nat → Int) : Nat → Int32 := fun k => iz (Z k)
def zup (Z : Nat → Int) (j : Nat) (v : Int) : Nat → Int := fun k => if k = j then v else Z k
theorem zup_s (Z : Nat → Int) (j : Nat) (v : Int) : zup Z j v j = v := if_pos rfl
theorem zup_n {Z : Nat → Int} {j k : Nat} {v : Int} (h : k ≠ j) : zup Z j v k = Z k := if_neg h
theorem zA_up (Z : Nat → Int) (j : Nat) (v : Int) : upd (zA Z) j (iz v) = zA (zup Z j v) := by
  funext k
  by_cases h : k = j
  · subst h
    rw [pk_us]
    show _ = iz (zup Z k v k)
    rw [zup_s]
  · rw [pk_un h]
    show iz (Z k) = iz (zup Z j v k)
    rw [zup_n h]
theorem iz_of (x : Int32) : x = iz x.toInt := (Int32.ofInt_toInt x).symm
theorem iz_rng (x : Int32) : -2147483648 ≤ x.toInt ∧ x.toInt < 2147483648 := by
  have h1 := Int32.le_toInt x
  have h2 := Int32.toInt_lt x
  omega
theorem zA_of (f : Nat → Int32) : f = zA (fun k => (f k).toInt) := by
  funext k
  exact iz_of _
theorem iz_toInt {z : Int} (h : -2147483648 ≤ z ∧ z < 2147483648) : (iz z).toInt = z := by
  unfold iz
  exact Int32.toInt_ofInt_of_le (by omega) (by omega)
theorem iz_inj {a b : Int} (ha : -2147483648 ≤ a ∧ a < 2147483648) (hb : -2147483648 ≤ b ∧ b < 2147483648) (h : iz a = iz b) : a = b := by
  have := congrArg Int32.toInt h
  rwa [iz_toInt ha, iz_toInt hb] at this
theorem iz_nI (n : Nat) : iz (n : Int) = nI n := by
  apply Int32.toBitVec_inj.mp
  show BitVec.ofInt 32 (n : Int) = BitVec.ofNat 32 n
  exact BitVec.ofInt_natCast 32 n
theorem iz_add (a b : Int) : iz a + iz b = iz (a + b) := (Int32.ofInt_add a b).symm
theorem iz_sub (a b : Int) : iz a - iz b = iz (a - b) := (Int32.ofInt_sub a b).symm
theorem iz_mul (a b : Int) : iz a * iz b = iz (a * b) := (Int32.ofInt_mul a b).symm
theorem iz_neg (a : Int) : - iz a = iz (-a) := (Int32.ofInt_neg a).symm
theorem iz_lt {a b : Int} (ha : -2147483648 ≤ a ∧ a < 2147483648) (hb : -2147483648 ≤ b ∧ b < 2147483648) : iz a < iz b ↔ a < b := by
  rw [Int32.lt_iff_toInt_lt, iz_toInt ha, iz_toInt hb]
theorem iz_le {a b : Int} (ha : -2147483648 ≤ a ∧ a < 2147483648) (hb : -2147483648 ≤ b ∧ b < 2147483648) : iz a ≤ iz b ↔ a ≤ b := by
  rw [Int32.le_iff_toInt_le, iz_toInt ha, iz_toInt hb]
theorem iz_eq {a b : Int} (ha : -2147483648 ≤ a ∧ a < 2147483648) (hb : -2147483648 ≤ b ∧ b < 2147483648) : iz a = iz b ↔ a = b := ⟨iz_inj ha hb, fun h => congrArg iz h⟩
theorem iz_div {a b : Int} (ha : 0 ≤ a ∧ a < 2147483648) (hb : 0 < b ∧ b < 2147483648) : iz a / iz b = iz (a / b) := by
  obtain ⟨n, rfl⟩ := Int.eq_ofNat_of_zero_le ha.1
  obtain ⟨m, rfl⟩ := Int.eq_ofNat_of_zero_le (show 0 ≤ b by omega)
  rw [iz_nI, iz_nI, pk_div (by omega) (by omega) (by omega), ← iz_nI]
  rfl
theorem iz_0 : iz 0 = 0 := by decide
theorem iz_max {a b : Int} (ha : -2147483648 ≤ a ∧ a < 2147483648) (hb : -2147483648 ≤ b ∧ b < 2147483648) : (if iz a < iz b then iz b else iz a) = iz (max a b) := by
  by_cases h : a < b
  · rw [if_pos ((iz_lt ha hb).mpr h)]
    exact congrArg iz (by omega)
  · rw [if_neg (mt (iz_lt ha hb).mp h)]
    exact congrArg iz (by omega)
section KZ
variable {p : Program} {l : Launch} {e : Env} {R : Room} {s : State} {m : MethodId} {args : Array Value} {below : List Frame} {meth : Method} {c : Code} {H : Heap} {locs : List Loc} {cells slots : Nat} {Q : State → Prop}
variable {cc : ByteArray} {pc : Nat} {ls : Array Slot} {rest st0 : List Value} {D : va_G} {A : Nat → Prop} {H0 : Heap} {T : Nat → ClassId}
theorem kz_add (hx : p.tables.exec = Jvm.exec) (hb : c.code = cc) {a b : Int} (hdg : decode cc pc = .ok (.iadd, 1)) (k : W p l e R s m args below meth c H locs cells slots Q (F0 m (pc + 1) ls (.int (iz (a + b)) :: rest))) : W p l e R s m args below meth c H locs cells slots Q (F0 m pc ls (.int (iz b) :: .int (iz a) :: rest)) := lv_iadd hx hb hdg (by rw [iz_add]; exact k)
theorem kz_sub (hx : p.tables.exec = Jvm.exec) (hb : c.code = cc) {a b : Int} (hdg : decode cc pc = .ok (.isub, 1)) (k : W p l e R s m args below meth c H locs cells slots Q (F0 m (pc + 1) ls (.int (iz (a - b)) :: rest))) : W p l e R s m args below meth c H locs cells slots Q (F0 m pc ls (.int (iz b) :: .int (iz a) :: rest)) := lv_isub hx hb hdg (by rw [iz_sub]; exact k)
theorem kz_mul (hx : p.tables.exec = Jvm.exec) (hb : c.code = cc) {a b : Int} (hdg : decode cc pc = .ok (.imul, 1)) (k : W p l e R s m args below meth c H locs cells slots Q (F0 m (pc + 1) ls (.int (iz (a * b)) :: rest))) : W p l e R s m args below meth c H locs cells slots Q (F0 m pc ls (.int (iz b) :: .int (iz a) :: rest)) := lv_imul hx hb hdg (by rw [iz_mul]; exact k)
theorem kz_neg (hx : p.tables.exec = Jvm.exec) (hb : c.code = cc) {a : Int} (hdg : decode cc pc = .ok (.ineg, 1)) (k : W p l e R s m args below meth c H locs cells slots Q (F0 m (pc + 1) ls (.int (iz (-a)) :: rest))) : W p l e R s m args below meth c H locs cells slots Q (F0 m pc ls (.int (iz a) :: rest)) := lv_ineg hx hb hdg (by rw [iz_neg]; exact k)
theorem kz_div (hx : p.tables.exec = Jvm.exec) (hb : c.code = cc) {a b : Int} (ha : 0 ≤ a ∧ a < 2147483648) (hbb : 0 < b ∧ b < 2147483648) (hdg : decode cc pc = .ok (.idiv, 1)) (k : W p l e R s m args below meth c H locs cells slots Q (F0 m (pc + 1) ls (.int (iz (a / b)) :: rest))) : W p l e R s m args below meth c H locs cells slots Q (F0 m pc ls (.int (iz b) :: .int (iz a) :: rest)) := lv_idiv hx hb hdg (fun h => by rw [← iz_0] at h; have := iz_inj (by omega) (by omega) h; omega) (by rw [iz_div ha hbb]; exact k)
theorem iz_rem {a b : Int} (ha : 0 ≤ a ∧ a < 2147483648) (hb : 0 < b ∧ b < 2147483648) : iz a - iz a / iz b * iz b = iz (a % b) := by rw [iz_div ha hb, iz_mul, iz_sub]; exact congrArg iz (by rw [Int.emod_def, Int.mul_comm])
theorem kz_rem (hx : p.tables.exec = Jvm.exec) (hb : c.code = cc) {a b : Int} (ha : 0 ≤ a ∧ a < 2147483648) (hbb : 0 < b ∧ b < 2147483648) (hdg : decode cc pc = .ok (.irem, 1)) (k : W p l e R s m args below meth c H locs cells slots Q (F0 m (pc + 1) ls (.int (iz (a % b)) :: rest))) : W p l e R s m args below meth c H locs cells slots Q (F0 m pc ls (.int (iz b) :: .int (iz a) :: rest)) := lv_irem hx hb hdg (fun h => by rw [← iz_0] at h; have := iz_inj (by omega) (by omega) h; omega) (by rw [iz_rem ha hbb]; exact k)
theorem kz_icmp_lt (hx : p.tables.exec = Jvm.exec) (hb : c.code = cc) {off : Int} {tgt : Nat} {a b : Int} (hdg : decode cc pc = .ok (.if_icmp .lt off, 3)) (ht : (pc : Int) + off = (tgt : Int)) (ha : -2147483648 ≤ a ∧ a < 2147483648) (hbb : -2147483648 ≤ b ∧ b < 2147483648) (kt : a < b → W p l e R s m args below meth c H locs cells slots Q (F0 m tgt ls rest)) (kf : b ≤ a → W p l e R s m args below meth c H locs cells slots Q (F0 m (pc + 3) ls rest)) : W p l e R s m args below meth c H locs cells slots Q (F0 m pc ls (.int (iz b) :: .int (iz a) :: rest)) := lv_icmp_lt hx hb hdg ht (fun h => kt ((iz_lt ha hbb).mp h)) (fun h => kf (by have := mt (iz_lt ha hbb).mpr h; omega))
theorem kz_if_lt (hx : p.tables.exec = Jvm.exec) (hb : c.code = cc) {off : Int} {tgt : Nat} {a : Int} (hdg : decode cc pc = .ok (.ifCond .lt off, 3)) (ht : (pc : Int) + off = (tgt : Int)) (ha : -2147483648 ≤ a ∧ a < 2147483648) (kt : a < 0 → W p l e R s m args below meth c H locs cells slots Q (F0 m tgt ls rest)) (kf : 0 ≤ a → W p l e R s m args below meth c H locs cells slots Q (F0 m (pc + 3) ls rest)) : W p l e R s m args below meth c H locs cells slots Q (F0 m pc ls (.int (iz a) :: rest)) := by
  have h0 := iz_0
  refine lv_if_lt hx hb hdg ht (fun h => kt ?_) (fun h => kf ?_)
  · rw [← h0] at h
    exact (iz_lt ha (by omega)).mp h
  · rw [← h0] at h
    have h2 := mt (iz_lt ha (by omega)).mpr h; omega
theorem kz_icmp_ge (hx : p.tables.exec = Jvm.exec) (hb : c.code = cc) {off : Int} {tgt : Nat} {a b : Int} (hdg : decode cc pc = .ok (.if_icmp .ge off, 3)) (ht : (pc : Int) + off = (tgt : Int)) (ha : -2147483648 ≤ a ∧ a < 2147483648) (hbb : -2147483648 ≤ b ∧ b < 2147483648) (kt : b ≤ a → W p l e R s m args below meth c H locs cells slots Q (F0 m tgt ls rest)) (kf : a < b → W p l e R s m args below meth c H locs cells slots Q (F0 m (pc + 3) ls rest)) : W p l e R s m args below meth c H locs cells slots Q (F0 m pc ls (.int (iz b) :: .int (iz a) :: rest)) := lv_icmp_ge hx hb hdg ht (fun h => kt ((iz_le hbb ha).mp h)) (fun h => kf (by have := mt (iz_le hbb ha).mpr h; omega))
theorem kz_if_ge (hx : p.tables.exec = Jvm.exec) (hb : c.code = cc) {off : Int} {tgt : Nat} {a : Int} (hdg : decode cc pc = .ok (.ifCond .ge off, 3)) (ht : (pc : Int) + off = (tgt : Int)) (ha : -2147483648 ≤ a ∧ a < 2147483648) (kt : 0 ≤ a → W p l e R s m args below meth c H locs cells slots Q (F0 m tgt ls rest)) (kf : a < 0 → W p l e R s m args below meth c H locs cells slots Q (F0 m (pc + 3) ls rest)) : W p l e R s m args below meth c H locs cells slots Q (F0 m pc ls (.int (iz a) :: rest)) := by
  have h0 := iz_0
  refine lv_if_ge hx hb hdg ht (fun h => kt ?_) (fun h => kf ?_)
  · rw [← h0] at h
    exact (iz_le (by omega) ha).mp h
  · rw [← h0] at h
    have h2 := mt (iz_le (by omega) ha).mpr h; omega
theorem kz_icmp_gt (hx : p.tables.exec = Jvm.exec) (hb : c.code = cc) {off : Int} {tgt : Nat} {a b : Int} (hdg : decode cc pc = .ok (.if_icmp .gt off, 3)) (ht : (pc : Int) + off = (tgt : Int)) (ha : -2147483648 ≤ a ∧ a < 2147483648) (hbb : -2147483648 ≤ b ∧ b < 2147483648) (kt : b < a → W p l e R s m args below meth c H locs cells slots Q (F0 m tgt ls rest)) (kf : a ≤ b → W p l e R s m args below meth c H locs cells slots Q (F0 m (pc + 3) ls rest)) : W p l e R s m args below meth c H locs cells slots Q (F0 m pc ls (.int (iz b) :: .int (iz a) :: rest)) := lv_icmp_gt hx hb hdg ht (fun h => kt ((iz_lt hbb ha).mp h)) (fun h => kf (by have := mt (iz_lt hbb ha).mpr h; omega))
theorem kz_if_gt (hx : p.tables.exec = Jvm.exec) (hb : c.code = cc) {off : Int} {tgt : Nat} {a : Int} (hdg : decode cc pc = .ok (.ifCond .gt off, 3)) (ht : (pc : Int) + off = (tgt : Int)) (ha : -2147483648 ≤ a ∧ a < 2147483648) (kt : 0 < a → W p l e R s m args below meth c H locs cells slots Q (F0 m tgt ls rest)) (kf : a ≤ 0 → W p l e R s m args below meth c H locs cells slots Q (F0 m (pc + 3) ls rest)) : W p l e R s m args below meth c H locs cells slots Q (F0 m pc ls (.int (iz a) :: rest)) := by
  have h0 := iz_0
  refine lv_if_gt hx hb hdg ht (fun h => kt ?_) (fun h => kf ?_)
  · rw [← h0] at h
    exact (iz_lt (by omega) ha).mp h
  · rw [← h0] at h
    have h2 := mt (iz_lt (by omega) ha).mpr h; omega
theorem kz_icmp_le (hx : p.tables.exec = Jvm.exec) (hb : c.code = cc) {off : Int} {tgt : Nat} {a b : Int} (hdg : decode cc pc = .ok (.if_icmp .le off, 3)) (ht : (pc : Int) + off = (tgt : Int)) (ha : -2147483648 ≤ a ∧ a < 2147483648) (hbb : -2147483648 ≤ b ∧ b < 2147483648) (kt : a ≤ b → W p l e R s m args below meth c H locs cells slots Q (F0 m tgt ls rest)) (kf : b < a → W p l e R s m args below meth c H locs cells slots Q (F0 m (pc + 3) ls rest)) : W p l e R s m args below meth c H locs cells slots Q (F0 m pc ls (.int (iz b) :: .int (iz a) :: rest)) := lv_icmp_le hx hb hdg ht (fun h => kt ((iz_le ha hbb).mp h)) (fun h => kf (by have := mt (iz_le ha hbb).mpr h; omega))
theorem kz_if_le (hx : p.tables.exec = Jvm.exec) (hb : c.code = cc) {off : Int} {tgt : Nat} {a : Int} (hdg : decode cc pc = .ok (.ifCond .le off, 3)) (ht : (pc : Int) + off = (tgt : Int)) (ha : -2147483648 ≤ a ∧ a < 2147483648) (kt : a ≤ 0 → W p l e R s m args below meth c H locs cells slots Q (F0 m tgt ls rest)) (kf : 0 < a → W p l e R s m args below meth c H locs cells slots Q (F0 m (pc + 3) ls rest)) : W p l e R s m args below meth c H locs cells slots Q (F0 m pc ls (.int (iz a) :: rest)) := by
  have h0 := iz_0
  refine lv_if_le hx hb hdg ht (fun h => kt ?_) (fun h => kf ?_)
  · rw [← h0] at h
    exact (iz_le ha (by omega)).mp h
  · rw [← h0] at h
    have h2 := mt (iz_le ha (by omega)).mpr h; omega
theorem kz_icmp_eq (hx : p.tables.exec = Jvm.exec) (hb : c.code = cc) {off : Int} {tgt : Nat} {a b : Int} (hdg : decode cc pc = .ok (.if_icmp .eq off, 3)) (ht : (pc : Int) + off = (tgt : Int)) (ha : -2147483648 ≤ a ∧ a < 2147483648) (hbb : -2147483648 ≤ b ∧ b < 2147483648) (kt : a = b → W p l e R s m args below meth c H locs cells slots Q (F0 m tgt ls rest)) (kf : a ≠ b → W p l e R s m args below meth c H locs cells slots Q (F0 m (pc + 3) ls rest)) : W p l e R s m args below meth c H locs cells slots Q (F0 m pc ls (.int (iz b) :: .int (iz a) :: rest)) := lv_icmp_eq hx hb hdg ht (fun h => kt ((iz_eq ha hbb).mp h)) (fun h => kf (fun q => h ((iz_eq ha hbb).mpr q)))
theorem kz_if_eq (hx : p.tables.exec = Jvm.exec) (hb : c.code = cc) {off : Int} {tgt : Nat} {a : Int} (hdg : decode cc pc = .ok (.ifCond .eq off, 3)) (ht : (pc : Int) + off = (tgt : Int)) (ha : -2147483648 ≤ a ∧ a < 2147483648) (kt : a = 0 → W p l e R s m args below meth c H locs cells slots Q (F0 m tgt ls rest)) (kf : a ≠ 0 → W p l e R s m args below meth c H locs cells slots Q (F0 m (pc + 3) ls rest)) : W p l e R s m args below meth c H locs cells slots Q (F0 m pc ls (.int (iz a) :: rest)) := by
  have h0 := iz_0
  refine lv_if_eq hx hb hdg ht (fun h => kt ?_) (fun h => kf ?_)
  · rw [← h0] at h
    exact (iz_eq ha (by omega)).mp h
  · rw [← h0] at h
    exact fun q => h ((iz_eq ha (by omega)).mpr q)
theorem kz_icmp_ne (hx : p.tables.exec = Jvm.exec) (hb : c.code = cc) {off : Int} {tgt : Nat} {a b : Int} (hdg : decode cc pc = .ok (.if_icmp .ne off, 3)) (ht : (pc : Int) + off = (tgt : Int)) (ha : -2147483648 ≤ a ∧ a < 2147483648) (hbb : -2147483648 ≤ b ∧ b < 2147483648) (kt : a ≠ b → W p l e R s m args below meth c H locs cells slots Q (F0 m tgt ls rest)) (kf : a = b → W p l e R s m args below meth c H locs cells slots Q (F0 m (pc + 3) ls rest)) : W p l e R s m args below meth c H locs cells slots Q (F0 m pc ls (.int (iz b) :: .int (iz a) :: rest)) := lv_icmp_ne hx hb hdg ht (fun h => kt (fun q => h ((iz_eq ha hbb).mpr q))) (fun h => kf ((iz_eq ha hbb).mp h))
theorem kz_if_ne (hx : p.tables.exec = Jvm.exec) (hb : c.code = cc) {off : Int} {tgt : Nat} {a : Int} (hdg : decode cc pc = .ok (.ifCond .ne off, 3)) (ht : (pc : Int) + off = (tgt : Int)) (ha : -2147483648 ≤ a ∧ a < 2147483648) (kt : a ≠ 0 → W p l e R s m args below meth c H locs cells slots Q (F0 m tgt ls rest)) (kf : a = 0 → W p l e R s m args below meth c H locs cells slots Q (F0 m (pc + 3) ls rest)) : W p l e R s m args below meth c H locs cells slots Q (F0 m pc ls (.int (iz a) :: rest)) := by
  have h0 := iz_0
  refine lv_if_ne hx hb hdg ht (fun h => kt ?_) (fun h => kf ?_)
  · rw [← h0] at h
    exact fun q => h ((iz_eq ha (by omega)).mpr q)
  · rw [← h0] at h
    exact (iz_eq ha (by omega)).mp h
theorem kz_iald (hx : p.tables.exec = Jvm.exec) (hb : c.code = cc) (hK : kK D T s) {ws : va_W} (hP : va_P D vwCl ws H) (q0 : Nat) {a n : Nat} {Z : Nat → Int} (ha : ws[q0]? = some (a, .inl (T 0, n, .inl (zA Z)))) (j : Nat) {i : Int} (hi : i = (j : Int)) (hj : j < n) (hn : n ≤ 1000000) (hdg : decode cc pc = .ok (.iaload, 1)) (kk : W p l e R s m args below meth c H locs cells slots Q (F0 m (pc + 1) ls (.int (iz (Z j)) :: rest))) : W p l e R s m args below meth c H locs cells slots Q (F0 m pc ls (.int (iz i) :: .ref a :: rest)) := k_iald hx hb hK hP q0 ha j (by rw [hi, iz_nI]) hj hn hdg kk
theorem kz_cald (hx : p.tables.exec = Jvm.exec) (hb : c.code = cc) (hK : kK D T s) {ws : va_W} (hP : va_P D vwCl ws H) (q0 : Nat) {a n : Nat} {Z : Nat → Int} (ha : ws[q0]? = some (a, .inl (T 3, n, .inl (zA Z)))) (j : Nat) {i : Int} (hi : i = (j : Int)) (hj : j < n) (hn : n ≤ 1000000) (hdg : decode cc pc = .ok (.caload, 1)) (kk : W p l e R s m args below meth c H locs cells slots Q (F0 m (pc + 1) ls (.int (iz (Z j)) :: rest))) : W p l e R s m args below meth c H locs cells slots Q (F0 m pc ls (.int (iz i) :: .ref a :: rest)) := k_cald hx hb hK hP q0 ha j (by rw [hi, iz_nI]) hj hn hdg kk
theorem kz_zald (hx : p.tables.exec = Jvm.exec) (hb : c.code = cc) (hK : kK D T s) {ws : va_W} (hP : va_P D vwCl ws H) (q0 : Nat) {a n : Nat} {Z : Nat → Int} (ha : ws[q0]? = some (a, .inl (T 2, n, .inl (zA Z)))) (j : Nat) {i : Int} (hi : i = (j : Int)) (hj : j < n) (hn : n ≤ 1000000) (hdg : decode cc pc = .ok (.baload, 1)) (kk : W p l e R s m args below meth c H locs cells slots Q (F0 m (pc + 1) ls (.int (iz (Z j)) :: rest))) : W p l e R s m args below meth c H locs cells slots Q (F0 m pc ls (.int (iz i) :: .ref a :: rest)) := k_zald hx hb hK hP q0 ha j (by rw [hi, iz_nI]) hj hn hdg kk
theorem kz_aald (hx : p.tables.exec = Jvm.exec) (hb : c.code = cc) (hK : kK D T s) {ws : va_W} (hP : va_P D vwCl ws H) (q0 : Nat) {a n : Nat} {f : Nat → Option Nat} (ha : ws[q0]? = some (a, .inl (T 1, n, .inr (.inr (.inr (.inr f)))))) (j : Nat) {i : Int} (hi : i = (j : Int)) (hj : j < n) (hn : n ≤ 1000000) {y : Nat} (hy : f j = some y) (hdg : decode cc pc = .ok (.aaload, 1)) (kk : W p l e R s m args below meth c H locs cells slots Q (F0 m (pc + 1) ls (.ref y :: rest))) : W p l e R s m args below meth c H locs cells slots Q (F0 m pc ls (.int (iz i) :: .ref a :: rest)) := k_aald hx hb hK hP q0 ha j (by rw [hi, iz_nI]) hj hn hy hdg kk
theorem kz_iast (hx : p.tables.exec = Jvm.exec) (hb : c.code = cc) (hK : kK D T s) {ws : va_W} (hP : va_P D vwCl ws H) (hD : va_D A ws) (hS : va_S A H0 H locs) (q0 : Nat) {a n : Nat} {Z : Nat → Int} (ha : ws[q0]? = some (a, .inl (T 0, n, .inl (zA Z)))) (j : Nat) {i x : Int} (hi : i = (j : Int)) (hj : j < n) (hn : n ≤ 1000000) (hdg : decode cc pc = .ok (.iastore, 1)) (kk : ∀ (H1 : Heap) (locs1 : List Loc), va_P D vwCl (ws.set q0 (a, .inl (T 0, n, .inl (zA (zup Z j x))))) H1 → va_D A (ws.set q0 (a, .inl (T 0, n, .inl (zA (zup Z j x))))) → va_S A H0 H1 locs1 → W p l e R s m args below meth c H1 locs1 cells slots Q (F0 m (pc + 1) ls rest)) : W p l e R s m args below meth c H locs cells slots Q (F0 m pc ls (.int (iz x) :: .int (iz i) :: .ref a :: rest)) := k_iast hx hb hK hP hD hS q0 ha j (by rw [hi, iz_nI]) hj hn hdg (by rw [zA_up]; exact kk)
theorem kz_zast (hx : p.tables.exec = Jvm.exec) (hb : c.code = cc) (hK : kK D T s) {ws : va_W} (hP : va_P D vwCl ws H) (hD : va_D A ws) (hS : va_S A H0 H locs) (q0 : Nat) {a n : Nat} {Z : Nat → Int} (ha : ws[q0]? = some (a, .inl (T 2, n, .inl (zA Z)))) (j : Nat) {i x : Int} (hi : i = (j : Int)) (hj : j < n) (hn : n ≤ 1000000) (hz : x = 0 ∨ x = 1) (hdg : decode cc pc = .ok (.bastore, 1)) (kk : ∀ (H1 : Heap) (locs1 : List Loc), va_P D vwCl (ws.set q0 (a, .inl (T 2, n, .inl (zA (zup Z j x))))) H1 → va_D A (ws.set q0 (a, .inl (T 2, n, .inl (zA (zup Z j x))))) → va_S A H0 H1 locs1 → W p l e R s m args below meth c H1 locs1 cells slots Q (F0 m (pc + 1) ls rest)) : W p l e R s m args below meth c H locs cells slots Q (F0 m pc ls (.int (iz x) :: .int (iz i) :: .ref a :: rest)) := k_zast hx hb hK hP hD hS q0 ha j (by rw [hi, iz_nI]) hj hn (by rcases hz with rfl | rfl <;> rfl) hdg (by rw [zA_up]; exact kk)
theorem kz_mmax (hx : p.tables.exec = Jvm.exec) (hb : c.code = cc) (hml : c.maxLocals = ls.size) {own : String} {index : Nat} (hown : s.vm.findClass own = some m.cls) (hlink : (Cond.methodLink own index Lib.Math.max.name).before args s = true) (hstat : (Cond.static Lib.Math.max.name).before args s = true) (hini : (Cond.initialized "java/lang/Math").before args s = true) (hcode : (Cond.code Lib.Math.max.name Lib.Math.max.code 2 (some .int)).before args s = true) (hframes : 1 ≤ R.frames) (hlocals : (rest.map fun v => v.category).sum + 13 ≤ R.locals) (hc : cells ≤ R.cells) (hs : slots ≤ R.slots) {a b : Int} (ha : -2147483648 ≤ a ∧ a < 2147483648) (hbb : -2147483648 ≤ b ∧ b < 2147483648) (hdg : decode cc pc = .ok (.invokestatic index, 3)) (kk : W p l e R s m args below meth c H locs cells slots Q (F0 m (pc + 3) ls (.int (iz (max a b)) :: rest))) : W p l e R s m args below meth c H locs cells slots Q (F0 m pc ls (.int (iz b) :: .int (iz a) :: rest)) := va_mmax hx hb hml hown hlink hstat hini hcode hframes hlocals hc hs hdg (by rw [iz_max ha hbb]; exact kk)
theorem iz_min {a b : Int} (ha : -2147483648 ≤ a ∧ a < 2147483648) (hb : -2147483648 ≤ b ∧ b < 2147483648) : (if iz b < iz a then iz b else iz a) = iz (min a b) := by
  by_cases h : b < a
  · rw [if_pos ((iz_lt hb ha).mpr h)]
    exact congrArg iz (by omega)
  · rw [if_neg (mt (iz_lt hb ha).mp h)]
    exact congrArg iz (by omega)
theorem kz_mmin (hx : p.tables.exec = Jvm.exec) (hb : c.code = cc) (hml : c.maxLocals = ls.size) {own : String} {index : Nat} (hown : s.vm.findClass own = some m.cls) (hlink : (Cond.methodLink own index Lib.Math.min.name).before args s = true) (hstat : (Cond.static Lib.Math.min.name).before args s = true) (hini : (Cond.initialized "java/lang/Math").before args s = true) (hcode : (Cond.code Lib.Math.min.name Lib.Math.min.code 2 (some .int)).before args s = true) (hframes : 1 ≤ R.frames) (hlocals : (rest.map fun v => v.category).sum + 13 ≤ R.locals) (hc : cells ≤ R.cells) (hs : slots ≤ R.slots) {a b : Int} (ha : -2147483648 ≤ a ∧ a < 2147483648) (hbb : -2147483648 ≤ b ∧ b < 2147483648) (hdg : decode cc pc = .ok (.invokestatic index, 3)) (kk : W p l e R s m args below meth c H locs cells slots Q (F0 m (pc + 3) ls (.int (iz (min a b)) :: rest))) : W p l e R s m args below meth c H locs cells slots Q (F0 m pc ls (.int (iz b) :: .int (iz a) :: rest)) := va_mmin hx hb hml hown hlink hstat hini hcode hframes hlocals hc hs hdg (by rw [iz_min ha hbb]; exact kk)
theorem kz_top {x y : Int} (h : x = y) (k : W p l e R s m args below meth c H locs cells slots Q (F0 m pc ls (.int (iz y) :: rest))) : W p l e R s m args below meth c H locs cells slots Q (F0 m pc ls (.int (iz x) :: rest)) := h ▸ k
theorem kz_nar {x : Int} (h : x = 0 ∨ x = 1) : narrow .boolean (.int (iz x)) = .int (iz x) := by rcases h with rfl | rfl <;> rfl
theorem kz_join {P : Int → Prop} {g : JFrame} {pcj : Nat} (K : (∀ v, P v → W p l e R s m args below meth c H locs cells slots Q (F0 m pcj ls (.int (iz v) :: rest))) → W p l e R s m args below meth c H locs cells slots Q g) (J : ∀ v, P v → W p l e R s m args below meth c H locs cells slots Q (F0 m pcj ls (.int (iz v) :: rest))) : W p l e R s m args below meth c H locs cells slots Q g := K J
theorem kz_loopR1 {A1 : Type} {pc : Nat} (I : A1 → Array Slot → Prop) (μ : A1 → Nat) (a1 : A1) (h0 : I a1 ls) (step : ∀ (a1 : A1) (ls : Array Slot), I a1 ls → (∀ (b1 : A1) (ls' : Array Slot), I b1 ls' → μ b1 < μ a1 → W p l e R s m args below meth c H locs cells slots Q (F0 m pc ls' [])) → W p l e R s m args below meth c H locs cells slots Q (F0 m pc ls [])) : W p l e R s m args below meth c H locs cells slots Q (F0 m pc ls []) := by
  have key : ∀ (n : Nat) (a1 : A1) (ls : Array Slot), I a1 ls → μ a1 < n → W p l e R s m args below meth c H locs cells slots Q (F0 m pc ls []) := by
    intro n
    induction n with
    | zero => intro a1 ls _ h; omega
    | succ n ih => intro a1 ls hI h; exact step a1 ls hI (fun b1 ls' hI' h' => ih b1 ls' hI' (by omega))
  exact key _ a1 ls h0 (Nat.lt_succ_self _)
theorem kz_loopW1 {A1 : Type} {pc : Nat} (I : A1 → Heap → List Loc → Array Slot → Prop) (μ : A1 → Nat) (a1 : A1) (h0 : I a1 H locs ls) (step : ∀ (a1 : A1) (H : Heap) (locs : List Loc) (ls : Array Slot), I a1 H locs ls → (∀ (b1 : A1) (H' : Heap) (locs' : List Loc) (ls' : Array Slot), I b1 H' locs' ls' → μ b1 < μ a1 → W p l e R s m args below meth c H' locs' cells slots Q (F0 m pc ls' [])) → W p l e R s m args below meth c H locs cells slots Q (F0 m pc ls [])) : W p l e R s m args below meth c H locs cells slots Q (F0 m pc ls []) := by
  have key : ∀ (n : Nat) (a1 : A1) (H : Heap) (locs : List Loc) (ls : Array Slot), I a1 H locs ls → μ a1 < n → W p l e R s m args below meth c H locs cells slots Q (F0 m pc ls []) := by
    intro n
    induction n with
    | zero => intro a1 H locs ls _ h; omega
    | succ n ih => intro a1 H locs ls hI h; exact step a1 H locs ls hI (fun b1 H' locs' ls' hI' h' => ih b1 H' locs' ls' hI' (by omega))
  exact key _ a1 H locs ls h0 (Nat.lt_succ_self _)
theorem kz_loopR2 {A1 A2 : Type} {pc : Nat} (I : A1 → A2 → Array Slot → Prop) (μ : A1 → A2 → Nat) (a1 : A1) (a2 : A2) (h0 : I a1 a2 ls) (step : ∀ (a1 : A1) (a2 : A2) (ls : Array Slot), I a1 a2 ls → (∀ (b1 : A1) (b2 : A2) (ls' : Array Slot), I b1 b2 ls' → μ b1 b2 < μ a1 a2 → W p l e R s m args below meth c H locs cells slots Q (F0 m pc ls' [])) → W p l e R s m args below meth c H locs cells slots Q (F0 m pc ls [])) : W p l e R s m args below meth c H locs cells slots Q (F0 m pc ls []) := by
  have key : ∀ (n : Nat) (a1 : A1) (a2 : A2) (ls : Array Slot), I a1 a2 ls → μ a1 a2 < n → W p l e R s m args below meth c H locs cells slots Q (F0 m pc ls []) := by
    intro n
    induction n with
    | zero => intro a1 a2 ls _ h; omega
    | succ n ih => intro a1 a2 ls hI h; exact step a1 a2 ls hI (fun b1 b2 ls' hI' h' => ih b1 b2 ls' hI' (by omega))
  exact key _ a1 a2 ls h0 (Nat.lt_succ_self _)
theorem kz_loopW2 {A1 A2 : Type} {pc : Nat} (I : A1 → A2 → Heap → List Loc → Array Slot → Prop) (μ : A1 → A2 → Nat) (a1 : A1) (a2 : A2) (h0 : I a1 a2 H locs ls) (step : ∀ (a1 : A1) (a2 : A2) (H : Heap) (locs : List Loc) (ls : Array Slot), I a1 a2 H locs ls → (∀ (b1 : A1) (b2 : A2) (H' : Heap) (locs' : List Loc) (ls' : Array Slot), I b1 b2 H' locs' ls' → μ b1 b2 < μ a1 a2 → W p l e R s m args below meth c H' locs' cells slots Q (F0 m pc ls' [])) → W p l e R s m args below meth c H locs cells slots Q (F0 m pc ls [])) : W p l e R s m args below meth c H locs cells slots Q (F0 m pc ls []) := by
  have key : ∀ (n : Nat) (a1 : A1) (a2 : A2) (H : Heap) (locs : List Loc) (ls : Array Slot), I a1 a2 H locs ls → μ a1 a2 < n → W p l e R s m args below meth c H locs cells slots Q (F0 m pc ls []) := by
    intro n
    induction n with
    | zero => intro a1 a2 H locs ls _ h; omega
    | succ n ih => intro a1 a2 H locs ls hI h; exact step a1 a2 H locs ls hI (fun b1 b2 H' locs' ls' hI' h' => ih b1 b2 H' locs' ls' hI' (by omega))
  exact key _ a1 a2 H locs ls h0 (Nat.lt_succ_self _)
theorem kz_loopR3 {A1 A2 A3 : Type} {pc : Nat} (I : A1 → A2 → A3 → Array Slot → Prop) (μ : A1 → A2 → A3 → Nat) (a1 : A1) (a2 : A2) (a3 : A3) (h0 : I a1 a2 a3 ls) (step : ∀ (a1 : A1) (a2 : A2) (a3 : A3) (ls : Array Slot), I a1 a2 a3 ls → (∀ (b1 : A1) (b2 : A2) (b3 : A3) (ls' : Array Slot), I b1 b2 b3 ls' → μ b1 b2 b3 < μ a1 a2 a3 → W p l e R s m args below meth c H locs cells slots Q (F0 m pc ls' [])) → W p l e R s m args below meth c H locs cells slots Q (F0 m pc ls [])) : W p l e R s m args below meth c H locs cells slots Q (F0 m pc ls []) := by
  have key : ∀ (n : Nat) (a1 : A1) (a2 : A2) (a3 : A3) (ls : Array Slot), I a1 a2 a3 ls → μ a1 a2 a3 < n → W p l e R s m args below meth c H locs cells slots Q (F0 m pc ls []) := by
    intro n
    induction n with
    | zero => intro a1 a2 a3 ls _ h; omega
    | succ n ih => intro a1 a2 a3 ls hI h; exact step a1 a2 a3 ls hI (fun b1 b2 b3 ls' hI' h' => ih b1 b2 b3 ls' hI' (by omega))
  exact key _ a1 a2 a3 ls h0 (Nat.lt_succ_self _)
theorem kz_loopW3 {A1 A2 A3 : Type} {pc : Nat} (I : A1 → A2 → A3 → Heap → List Loc → Array Slot → Prop) (μ : A1 → A2 → A3 → Nat) (a1 : A1) (a2 : A2) (a3 : A3) (h0 : I a1 a2 a3 H locs ls) (step : ∀ (a1 : A1) (a2 : A2) (a3 : A3) (H : Heap) (locs : List Loc) (ls : Array Slot), I a1 a2 a3 H locs ls → (∀ (b1 : A1) (b2 : A2) (b3 : A3) (H' : Heap) (locs' : List Loc) (ls' : Array Slot), I b1 b2 b3 H' locs' ls' → μ b1 b2 b3 < μ a1 a2 a3 → W p l e R s m args below meth c H' locs' cells slots Q (F0 m pc ls' [])) → W p l e R s m args below meth c H locs cells slots Q (F0 m pc ls [])) : W p l e R s m args below meth c H locs cells slots Q (F0 m pc ls []) := by
  have key : ∀ (n : Nat) (a1 : A1) (a2 : A2) (a3 : A3) (H : Heap) (locs : List Loc) (ls : Array Slot), I a1 a2 a3 H locs ls → μ a1 a2 a3 < n → W p l e R s m args below meth c H locs cells slots Q (F0 m pc ls []) := by
    intro n
    induction n with
    | zero => intro a1 a2 a3 H locs ls _ h; omega
    | succ n ih => intro a1 a2 a3 H locs ls hI h; exact step a1 a2 a3 H locs ls hI (fun b1 b2 b3 H' locs' ls' hI' h' => ih b1 b2 b3 H' locs' ls' hI' (by omega))
  exact key _ a1 a2 a3 H locs ls h0 (Nat.lt_succ_self _)
theorem kz_loopR4 {A1 A2 A3 A4 : Type} {pc : Nat} (I : A1 → A2 → A3 → A4 → Array Slot → Prop) (μ : A1 → A2 → A3 → A4 → Nat) (a1 : A1) (a2 : A2) (a3 : A3) (a4 : A4) (h0 : I a1 a2 a3 a4 ls) (step : ∀ (a1 : A1) (a2 : A2) (a3 : A3) (a4 : A4) (ls : Array Slot), I a1 a2 a3 a4 ls → (∀ (b1 : A1) (b2 : A2) (b3 : A3) (b4 : A4) (ls' : Array Slot), I b1 b2 b3 b4 ls' → μ b1 b2 b3 b4 < μ a1 a2 a3 a4 → W p l e R s m args below meth c H locs cells slots Q (F0 m pc ls' [])) → W p l e R s m args below meth c H locs cells slots Q (F0 m pc ls [])) : W p l e R s m args below meth c H locs cells slots Q (F0 m pc ls []) := by
  have key : ∀ (n : Nat) (a1 : A1) (a2 : A2) (a3 : A3) (a4 : A4) (ls : Array Slot), I a1 a2 a3 a4 ls → μ a1 a2 a3 a4 < n → W p l e R s m args below meth c H locs cells slots Q (F0 m pc ls []) := by
    intro n
    induction n with
    | zero => intro a1 a2 a3 a4 ls _ h; omega
    | succ n ih => intro a1 a2 a3 a4 ls hI h; exact step a1 a2 a3 a4 ls hI (fun b1 b2 b3 b4 ls' hI' h' => ih b1 b2 b3 b4 ls' hI' (by omega))
  exact key _ a1 a2 a3 a4 ls h0 (Nat.lt_succ_self _)
theorem kz_loopW4 {A1 A2 A3 A4 : Type} {pc : Nat} (I : A1 → A2 → A3 → A4 → Heap → List Loc → Array Slot → Prop) (μ : A1 → A2 → A3 → A4 → Nat) (a1 : A1) (a2 : A2) (a3 : A3) (a4 : A4) (h0 : I a1 a2 a3 a4 H locs ls) (step : ∀ (a1 : A1) (a2 : A2) (a3 : A3) (a4 : A4) (H : Heap) (locs : List Loc) (ls : Array Slot), I a1 a2 a3 a4 H locs ls → (∀ (b1 : A1) (b2 : A2) (b3 : A3) (b4 : A4) (H' : Heap) (locs' : List Loc) (ls' : Array Slot), I b1 b2 b3 b4 H' locs' ls' → μ b1 b2 b3 b4 < μ a1 a2 a3 a4 → W p l e R s m args below meth c H' locs' cells slots Q (F0 m pc ls' [])) → W p l e R s m args below meth c H locs cells slots Q (F0 m pc ls [])) : W p l e R s m args below meth c H locs cells slots Q (F0 m pc ls []) := by
  have key : ∀ (n : Nat) (a1 : A1) (a2 : A2) (a3 : A3) (a4 : A4) (H : Heap) (locs : List Loc) (ls : Array Slot), I a1 a2 a3 a4 H locs ls → μ a1 a2 a3 a4 < n → W p l e R s m args below meth c H locs cells slots Q (F0 m pc ls []) := by
    intro n
    induction n with
    | zero => intro a1 a2 a3 a4 H locs ls _ h; omega
    | succ n ih => intro a1 a2 a3 a4 H locs ls hI h; exact step a1 a2 a3 a4 H locs ls hI (fun b1 b2 b3 b4 H' locs' ls' hI' h' => ih b1 b2 b3 b4 H' locs' ls' hI' (by omega))
  exact key _ a1 a2 a3 a4 H locs ls h0 (Nat.lt_succ_self _)
theorem kz_loopR5 {A1 A2 A3 A4 A5 : Type} {pc : Nat} (I : A1 → A2 → A3 → A4 → A5 → Array Slot → Prop) (μ : A1 → A2 → A3 → A4 → A5 → Nat) (a1 : A1) (a2 : A2) (a3 : A3) (a4 : A4) (a5 : A5) (h0 : I a1 a2 a3 a4 a5 ls) (step : ∀ (a1 : A1) (a2 : A2) (a3 : A3) (a4 : A4) (a5 : A5) (ls : Array Slot), I a1 a2 a3 a4 a5 ls → (∀ (b1 : A1) (b2 : A2) (b3 : A3) (b4 : A4) (b5 : A5) (ls' : Array Slot), I b1 b2 b3 b4 b5 ls' → μ b1 b2 b3 b4 b5 < μ a1 a2 a3 a4 a5 → W p l e R s m args below meth c H locs cells slots Q (F0 m pc ls' [])) → W p l e R s m args below meth c H locs cells slots Q (F0 m pc ls [])) : W p l e R s m args below meth c H locs cells slots Q (F0 m pc ls []) := by
  have key : ∀ (n : Nat) (a1 : A1) (a2 : A2) (a3 : A3) (a4 : A4) (a5 : A5) (ls : Array Slot), I a1 a2 a3 a4 a5 ls → μ a1 a2 a3 a4 a5 < n → W p l e R s m args below meth c H locs cells slots Q (F0 m pc ls []) := by
    intro n
    induction n with
    | zero => intro a1 a2 a3 a4 a5 ls _ h; omega
    | succ n ih => intro a1 a2 a3 a4 a5 ls hI h; exact step a1 a2 a3 a4 a5 ls hI (fun b1 b2 b3 b4 b5 ls' hI' h' => ih b1 b2 b3 b4 b5 ls' hI' (by omega))
  exact key _ a1 a2 a3 a4 a5 ls h0 (Nat.lt_succ_self _)
theorem kz_loopW5 {A1 A2 A3 A4 A5 : Type} {pc : Nat} (I : A1 → A2 → A3 → A4 → A5 → Heap → List Loc → Array Slot → Prop) (μ : A1 → A2 → A3 → A4 → A5 → Nat) (a1 : A1) (a2 : A2) (a3 : A3) (a4 : A4) (a5 : A5) (h0 : I a1 a2 a3 a4 a5 H locs ls) (step : ∀ (a1 : A1) (a2 : A2) (a3 : A3) (a4 : A4) (a5 : A5) (H : Heap) (locs : List Loc) (ls : Array Slot), I a1 a2 a3 a4 a5 H locs ls → (∀ (b1 : A1) (b2 : A2) (b3 : A3) (b4 : A4) (b5 : A5) (H' : Heap) (locs' : List Loc) (ls' : Array Slot), I b1 b2 b3 b4 b5 H' locs' ls' → μ b1 b2 b3 b4 b5 < μ a1 a2 a3 a4 a5 → W p l e R s m args below meth c H' locs' cells slots Q (F0 m pc ls' [])) → W p l e R s m args below meth c H locs cells slots Q (F0 m pc ls [])) : W p l e R s m args below meth c H locs cells slots Q (F0 m pc ls []) := by
  have key : ∀ (n : Nat) (a1 : A1) (a2 : A2) (a3 : A3) (a4 : A4) (a5 : A5) (H : Heap) (locs : List Loc) (ls : Array Slot), I a1 a2 a3 a4 a5 H locs ls → μ a1 a2 a3 a4 a5 < n → W p l e R s m args below meth c H locs cells slots Q (F0 m pc ls []) := by
    intro n
    induction n with
    | zero => intro a1 a2 a3 a4 a5 H locs ls _ h; omega
    | succ n ih => intro a1 a2 a3 a4 a5 H locs ls hI h; exact step a1 a2 a3 a4 a5 H locs ls hI (fun b1 b2 b3 b4 b5 H' locs' ls' hI' h' => ih b1 b2 b3 b4 b5 H' locs' ls' hI' (by omega))
  exact key _ a1 a2 a3 a4 a5 H locs ls h0 (Nat.lt_succ_self _)
theorem kz_loopR6 {A1 A2 A3 A4 A5 A6 : Type} {pc : Nat} (I : A1 → A2 → A3 → A4 → A5 → A6 → Array Slot → Prop) (μ : A1 → A2 → A3 → A4 → A5 → A6 → Nat) (a1 : A1) (a2 : A2) (a3 : A3) (a4 : A4) (a5 : A5) (a6 : A6) (h0 : I a1 a2 a3 a4 a5 a6 ls) (step : ∀ (a1 : A1) (a2 : A2) (a3 : A3) (a4 : A4) (a5 : A5) (a6 : A6) (ls : Array Slot), I a1 a2 a3 a4 a5 a6 ls → (∀ (b1 : A1) (b2 : A2) (b3 : A3) (b4 : A4) (b5 : A5) (b6 : A6) (ls' : Array Slot), I b1 b2 b3 b4 b5 b6 ls' → μ b1 b2 b3 b4 b5 b6 < μ a1 a2 a3 a4 a5 a6 → W p l e R s m args below meth c H locs cells slots Q (F0 m pc ls' [])) → W p l e R s m args below meth c H locs cells slots Q (F0 m pc ls [])) : W p l e R s m args below meth c H locs cells slots Q (F0 m pc ls []) := by
  have key : ∀ (n : Nat) (a1 : A1) (a2 : A2) (a3 : A3) (a4 : A4) (a5 : A5) (a6 : A6) (ls : Array Slot), I a1 a2 a3 a4 a5 a6 ls → μ a1 a2 a3 a4 a5 a6 < n → W p l e R s m args below meth c H locs cells slots Q (F0 m pc ls []) := by
    intro n
    induction n with
    | zero => intro a1 a2 a3 a4 a5 a6 ls _ h; omega
    | succ n ih => intro a1 a2 a3 a4 a5 a6 ls hI h; exact step a1 a2 a3 a4 a5 a6 ls hI (fun b1 b2 b3 b4 b5 b6 ls' hI' h' => ih b1 b2 b3 b4 b5 b6 ls' hI' (by omega))
  exact key _ a1 a2 a3 a4 a5 a6 ls h0 (Nat.lt_succ_self _)
theorem kz_loopW6 {A1 A2 A3 A4 A5 A6 : Type} {pc : Nat} (I : A1 → A2 → A3 → A4 → A5 → A6 → Heap → List Loc → Array Slot → Prop) (μ : A1 → A2 → A3 → A4 → A5 → A6 → Nat) (a1 : A1) (a2 : A2) (a3 : A3) (a4 : A4) (a5 : A5) (a6 : A6) (h0 : I a1 a2 a3 a4 a5 a6 H locs ls) (step : ∀ (a1 : A1) (a2 : A2) (a3 : A3) (a4 : A4) (a5 : A5) (a6 : A6) (H : Heap) (locs : List Loc) (ls : Array Slot), I a1 a2 a3 a4 a5 a6 H locs ls → (∀ (b1 : A1) (b2 : A2) (b3 : A3) (b4 : A4) (b5 : A5) (b6 : A6) (H' : Heap) (locs' : List Loc) (ls' : Array Slot), I b1 b2 b3 b4 b5 b6 H' locs' ls' → μ b1 b2 b3 b4 b5 b6 < μ a1 a2 a3 a4 a5 a6 → W p l e R s m args below meth c H' locs' cells slots Q (F0 m pc ls' [])) → W p l e R s m args below meth c H locs cells slots Q (F0 m pc ls [])) : W p l e R s m args below meth c H locs cells slots Q (F0 m pc ls []) := by
  have key : ∀ (n : Nat) (a1 : A1) (a2 : A2) (a3 : A3) (a4 : A4) (a5 : A5) (a6 : A6) (H : Heap) (locs : List Loc) (ls : Array Slot), I a1 a2 a3 a4 a5 a6 H locs ls → μ a1 a2 a3 a4 a5 a6 < n → W p l e R s m args below meth c H locs cells slots Q (F0 m pc ls []) := by
    intro n
    induction n with
    | zero => intro a1 a2 a3 a4 a5 a6 H locs ls _ h; omega
    | succ n ih => intro a1 a2 a3 a4 a5 a6 H locs ls hI h; exact step a1 a2 a3 a4 a5 a6 H locs ls hI (fun b1 b2 b3 b4 b5 b6 H' locs' ls' hI' h' => ih b1 b2 b3 b4 b5 b6 H' locs' ls' hI' (by omega))
  exact key _ a1 a2 a3 a4 a5 a6 H locs ls h0 (Nat.lt_succ_self _)
theorem kz_loopR7 {A1 A2 A3 A4 A5 A6 A7 : Type} {pc : Nat} (I : A1 → A2 → A3 → A4 → A5 → A6 → A7 → Array Slot → Prop) (μ : A1 → A2 → A3 → A4 → A5 → A6 → A7 → Nat) (a1 : A1) (a2 : A2) (a3 : A3) (a4 : A4) (a5 : A5) (a6 : A6) (a7 : A7) (h0 : I a1 a2 a3 a4 a5 a6 a7 ls) (step : ∀ (a1 : A1) (a2 : A2) (a3 : A3) (a4 : A4) (a5 : A5) (a6 : A6) (a7 : A7) (ls : Array Slot), I a1 a2 a3 a4 a5 a6 a7 ls → (∀ (b1 : A1) (b2 : A2) (b3 : A3) (b4 : A4) (b5 : A5) (b6 : A6) (b7 : A7) (ls' : Array Slot), I b1 b2 b3 b4 b5 b6 b7 ls' → μ b1 b2 b3 b4 b5 b6 b7 < μ a1 a2 a3 a4 a5 a6 a7 → W p l e R s m args below meth c H locs cells slots Q (F0 m pc ls' [])) → W p l e R s m args below meth c H locs cells slots Q (F0 m pc ls [])) : W p l e R s m args below meth c H locs cells slots Q (F0 m pc ls []) := by
  have key : ∀ (n : Nat) (a1 : A1) (a2 : A2) (a3 : A3) (a4 : A4) (a5 : A5) (a6 : A6) (a7 : A7) (ls : Array Slot), I a1 a2 a3 a4 a5 a6 a7 ls → μ a1 a2 a3 a4 a5 a6 a7 < n → W p l e R s m args below meth c H locs cells slots Q (F0 m pc ls []) := by
    intro n
    induction n with
    | zero => intro a1 a2 a3 a4 a5 a6 a7 ls _ h; omega
    | succ n ih => intro a1 a2 a3 a4 a5 a6 a7 ls hI h; exact step a1 a2 a3 a4 a5 a6 a7 ls hI (fun b1 b2 b3 b4 b5 b6 b7 ls' hI' h' => ih b1 b2 b3 b4 b5 b6 b7 ls' hI' (by omega))
  exact key _ a1 a2 a3 a4 a5 a6 a7 ls h0 (Nat.lt_succ_self _)
theorem kz_loopW7 {A1 A2 A3 A4 A5 A6 A7 : Type} {pc : Nat} (I : A1 → A2 → A3 → A4 → A5 → A6 → A7 → Heap → List Loc → Array Slot → Prop) (μ : A1 → A2 → A3 → A4 → A5 → A6 → A7 → Nat) (a1 : A1) (a2 : A2) (a3 : A3) (a4 : A4) (a5 : A5) (a6 : A6) (a7 : A7) (h0 : I a1 a2 a3 a4 a5 a6 a7 H locs ls) (step : ∀ (a1 : A1) (a2 : A2) (a3 : A3) (a4 : A4) (a5 : A5) (a6 : A6) (a7 : A7) (H : Heap) (locs : List Loc) (ls : Array Slot), I a1 a2 a3 a4 a5 a6 a7 H locs ls → (∀ (b1 : A1) (b2 : A2) (b3 : A3) (b4 : A4) (b5 : A5) (b6 : A6) (b7 : A7) (H' : Heap) (locs' : List Loc) (ls' : Array Slot), I b1 b2 b3 b4 b5 b6 b7 H' locs' ls' → μ b1 b2 b3 b4 b5 b6 b7 < μ a1 a2 a3 a4 a5 a6 a7 → W p l e R s m args below meth c H' locs' cells slots Q (F0 m pc ls' [])) → W p l e R s m args below meth c H locs cells slots Q (F0 m pc ls [])) : W p l e R s m args below meth c H locs cells slots Q (F0 m pc ls []) := by
  have key : ∀ (n : Nat) (a1 : A1) (a2 : A2) (a3 : A3) (a4 : A4) (a5 : A5) (a6 : A6) (a7 : A7) (H : Heap) (locs : List Loc) (ls : Array Slot), I a1 a2 a3 a4 a5 a6 a7 H locs ls → μ a1 a2 a3 a4 a5 a6 a7 < n → W p l e R s m args below meth c H locs cells slots Q (F0 m pc ls []) := by
    intro n
    induction n with
    | zero => intro a1 a2 a3 a4 a5 a6 a7 H locs ls _ h; omega
    | succ n ih => intro a1 a2 a3 a4 a5 a6 a7 H locs ls hI h; exact step a1 a2 a3 a4 a5 a6 a7 H locs ls hI (fun b1 b2 b3 b4 b5 b6 b7 H' locs' ls' hI' h' => ih b1 b2 b3 b4 b5 b6 b7 H' locs' ls' hI' (by omega))
  exact key _ a1 a2 a3 a4 a5 a6 a7 H locs ls h0 (Nat.lt_succ_self _)
theorem kz_loopR8 {A1 A2 A3 A4 A5 A6 A7 A8 : Type} {pc : Nat} (I : A1 → A2 → A3 → A4 → A5 → A6 → A7 → A8 → Array Slot → Prop) (μ : A1 → A2 → A3 → A4 → A5 → A6 → A7 → A8 → Nat) (a1 : A1) (a2 : A2) (a3 : A3) (a4 : A4) (a5 : A5) (a6 : A6) (a7 : A7) (a8 : A8) (h0 : I a1 a2 a3 a4 a5 a6 a7 a8 ls) (step : ∀ (a1 : A1) (a2 : A2) (a3 : A3) (a4 : A4) (a5 : A5) (a6 : A6) (a7 : A7) (a8 : A8) (ls : Array Slot), I a1 a2 a3 a4 a5 a6 a7 a8 ls → (∀ (b1 : A1) (b2 : A2) (b3 : A3) (b4 : A4) (b5 : A5) (b6 : A6) (b7 : A7) (b8 : A8) (ls' : Array Slot), I b1 b2 b3 b4 b5 b6 b7 b8 ls' → μ b1 b2 b3 b4 b5 b6 b7 b8 < μ a1 a2 a3 a4 a5 a6 a7 a8 → W p l e R s m args below meth c H locs cells slots Q (F0 m pc ls' [])) → W p l e R s m args below meth c H locs cells slots Q (F0 m pc ls [])) : W p l e R s m args below meth c H locs cells slots Q (F0 m pc ls []) := by
  have key : ∀ (n : Nat) (a1 : A1) (a2 : A2) (a3 : A3) (a4 : A4) (a5 : A5) (a6 : A6) (a7 : A7) (a8 : A8) (ls : Array Slot), I a1 a2 a3 a4 a5 a6 a7 a8 ls → μ a1 a2 a3 a4 a5 a6 a7 a8 < n → W p l e R s m args below meth c H locs cells slots Q (F0 m pc ls []) := by
    intro n
    induction n with
    | zero => intro a1 a2 a3 a4 a5 a6 a7 a8 ls _ h; omega
    | succ n ih => intro a1 a2 a3 a4 a5 a6 a7 a8 ls hI h; exact step a1 a2 a3 a4 a5 a6 a7 a8 ls hI (fun b1 b2 b3 b4 b5 b6 b7 b8 ls' hI' h' => ih b1 b2 b3 b4 b5 b6 b7 b8 ls' hI' (by omega))
  exact key _ a1 a2 a3 a4 a5 a6 a7 a8 ls h0 (Nat.lt_succ_self _)
theorem kz_loopW8 {A1 A2 A3 A4 A5 A6 A7 A8 : Type} {pc : Nat} (I : A1 → A2 → A3 → A4 → A5 → A6 → A7 → A8 → Heap → List Loc → Array Slot → Prop) (μ : A1 → A2 → A3 → A4 → A5 → A6 → A7 → A8 → Nat) (a1 : A1) (a2 : A2) (a3 : A3) (a4 : A4) (a5 : A5) (a6 : A6) (a7 : A7) (a8 : A8) (h0 : I a1 a2 a3 a4 a5 a6 a7 a8 H locs ls) (step : ∀ (a1 : A1) (a2 : A2) (a3 : A3) (a4 : A4) (a5 : A5) (a6 : A6) (a7 : A7) (a8 : A8) (H : Heap) (locs : List Loc) (ls : Array Slot), I a1 a2 a3 a4 a5 a6 a7 a8 H locs ls → (∀ (b1 : A1) (b2 : A2) (b3 : A3) (b4 : A4) (b5 : A5) (b6 : A6) (b7 : A7) (b8 : A8) (H' : Heap) (locs' : List Loc) (ls' : Array Slot), I b1 b2 b3 b4 b5 b6 b7 b8 H' locs' ls' → μ b1 b2 b3 b4 b5 b6 b7 b8 < μ a1 a2 a3 a4 a5 a6 a7 a8 → W p l e R s m args below meth c H' locs' cells slots Q (F0 m pc ls' [])) → W p l e R s m args below meth c H locs cells slots Q (F0 m pc ls [])) : W p l e R s m args below meth c H locs cells slots Q (F0 m pc ls []) := by
  have key : ∀ (n : Nat) (a1 : A1) (a2 : A2) (a3 : A3) (a4 : A4) (a5 : A5) (a6 : A6) (a7 : A7) (a8 : A8) (H : Heap) (locs : List Loc) (ls : Array Slot), I a1 a2 a3 a4 a5 a6 a7 a8 H locs ls → μ a1 a2 a3 a4 a5 a6 a7 a8 < n → W p l e R s m args below meth c H locs cells slots Q (F0 m pc ls []) := by
    intro n
    induction n with
    | zero => intro a1 a2 a3 a4 a5 a6 a7 a8 H locs ls _ h; omega
    | succ n ih => intro a1 a2 a3 a4 a5 a6 a7 a8 H locs ls hI h; exact step a1 a2 a3 a4 a5 a6 a7 a8 H locs ls hI (fun b1 b2 b3 b4 b5 b6 b7 b8 H' locs' ls' hI' h' => ih b1 b2 b3 b4 b5 b6 b7 b8 H' locs' ls' hI' (by omega))
  exact key _ a1 a2 a3 a4 a5 a6 a7 a8 H locs ls h0 (Nat.lt_succ_self _)
theorem kz_loopR9 {A1 A2 A3 A4 A5 A6 A7 A8 A9 : Type} {pc : Nat} (I : A1 → A2 → A3 → A4 → A5 → A6 → A7 → A8 → A9 → Array Slot → Prop) (μ : A1 → A2 → A3 → A4 → A5 → A6 → A7 → A8 → A9 → Nat) (a1 : A1) (a2 : A2) (a3 : A3) (a4 : A4) (a5 : A5) (a6 : A6) (a7 : A7) (a8 : A8) (a9 : A9) (h0 : I a1 a2 a3 a4 a5 a6 a7 a8 a9 ls) (step : ∀ (a1 : A1) (a2 : A2) (a3 : A3) (a4 : A4) (a5 : A5) (a6 : A6) (a7 : A7) (a8 : A8) (a9 : A9) (ls : Array Slot), I a1 a2 a3 a4 a5 a6 a7 a8 a9 ls → (∀ (b1 : A1) (b2 : A2) (b3 : A3) (b4 : A4) (b5 : A5) (b6 : A6) (b7 : A7) (b8 : A8) (b9 : A9) (ls' : Array Slot), I b1 b2 b3 b4 b5 b6 b7 b8 b9 ls' → μ b1 b2 b3 b4 b5 b6 b7 b8 b9 < μ a1 a2 a3 a4 a5 a6 a7 a8 a9 → W p l e R s m args below meth c H locs cells slots Q (F0 m pc ls' [])) → W p l e R s m args below meth c H locs cells slots Q (F0 m pc ls [])) : W p l e R s m args below meth c H locs cells slots Q (F0 m pc ls []) := by
  have key : ∀ (n : Nat) (a1 : A1) (a2 : A2) (a3 : A3) (a4 : A4) (a5 : A5) (a6 : A6) (a7 : A7) (a8 : A8) (a9 : A9) (ls : Array Slot), I a1 a2 a3 a4 a5 a6 a7 a8 a9 ls → μ a1 a2 a3 a4 a5 a6 a7 a8 a9 < n → W p l e R s m args below meth c H locs cells slots Q (F0 m pc ls []) := by
    intro n
    induction n with
    | zero => intro a1 a2 a3 a4 a5 a6 a7 a8 a9 ls _ h; omega
    | succ n ih => intro a1 a2 a3 a4 a5 a6 a7 a8 a9 ls hI h; exact step a1 a2 a3 a4 a5 a6 a7 a8 a9 ls hI (fun b1 b2 b3 b4 b5 b6 b7 b8 b9 ls' hI' h' => ih b1 b2 b3 b4 b5 b6 b7 b8 b9 ls' hI' (by omega))
  exact key _ a1 a2 a3 a4 a5 a6 a7 a8 a9 ls h0 (Nat.lt_succ_self _)
theorem kz_loopW9 {A1 A2 A3 A4 A5 A6 A7 A8 A9 : Type} {pc : Nat} (I : A1 → A2 → A3 → A4 → A5 → A6 → A7 → A8 → A9 → Heap → List Loc → Array Slot → Prop) (μ : A1 → A2 → A3 → A4 → A5 → A6 → A7 → A8 → A9 → Nat) (a1 : A1) (a2 : A2) (a3 : A3) (a4 : A4) (a5 : A5) (a6 : A6) (a7 : A7) (a8 : A8) (a9 : A9) (h0 : I a1 a2 a3 a4 a5 a6 a7 a8 a9 H locs ls) (step : ∀ (a1 : A1) (a2 : A2) (a3 : A3) (a4 : A4) (a5 : A5) (a6 : A6) (a7 : A7) (a8 : A8) (a9 : A9) (H : Heap) (locs : List Loc) (ls : Array Slot), I a1 a2 a3 a4 a5 a6 a7 a8 a9 H locs ls → (∀ (b1 : A1) (b2 : A2) (b3 : A3) (b4 : A4) (b5 : A5) (b6 : A6) (b7 : A7) (b8 : A8) (b9 : A9) (H' : Heap) (locs' : List Loc) (ls' : Array Slot), I b1 b2 b3 b4 b5 b6 b7 b8 b9 H' locs' ls' → μ b1 b2 b3 b4 b5 b6 b7 b8 b9 < μ a1 a2 a3 a4 a5 a6 a7 a8 a9 → W p l e R s m args below meth c H' locs' cells slots Q (F0 m pc ls' [])) → W p l e R s m args below meth c H locs cells slots Q (F0 m pc ls [])) : W p l e R s m args below meth c H locs cells slots Q (F0 m pc ls []) := by
  have key : ∀ (n : Nat) (a1 : A1) (a2 : A2) (a3 : A3) (a4 : A4) (a5 : A5) (a6 : A6) (a7 : A7) (a8 : A8) (a9 : A9) (H : Heap) (locs : List Loc) (ls : Array Slot), I a1 a2 a3 a4 a5 a6 a7 a8 a9 H locs ls → μ a1 a2 a3 a4 a5 a6 a7 a8 a9 < n → W p l e R s m args below meth c H locs cells slots Q (F0 m pc ls []) := by
    intro n
    induction n with
    | zero => intro a1 a2 a3 a4 a5 a6 a7 a8 a9 H locs ls _ h; omega
    | succ n ih => intro a1 a2 a3 a4 a5 a6 a7 a8 a9 H locs ls hI h; exact step a1 a2 a3 a4 a5 a6 a7 a8 a9 H locs ls hI (fun b1 b2 b3 b4 b5 b6 b7 b8 b9 H' locs' ls' hI' h' => ih b1 b2 b3 b4 b5 b6 b7 b8 b9 H' locs' ls' hI' (by omega))
  exact key _ a1 a2 a3 a4 a5 a6 a7 a8 a9 H locs ls h0 (Nat.lt_succ_self _)
theorem kz_loopR10 {A1 A2 A3 A4 A5 A6 A7 A8 A9 A10 : Type} {pc : Nat} (I : A1 → A2 → A3 → A4 → A5 → A6 → A7 → A8 → A9 → A10 → Array Slot → Prop) (μ : A1 → A2 → A3 → A4 → A5 → A6 → A7 → A8 → A9 → A10 → Nat) (a1 : A1) (a2 : A2) (a3 : A3) (a4 : A4) (a5 : A5) (a6 : A6) (a7 : A7) (a8 : A8) (a9 : A9) (a10 : A10) (h0 : I a1 a2 a3 a4 a5 a6 a7 a8 a9 a10 ls) (step : ∀ (a1 : A1) (a2 : A2) (a3 : A3) (a4 : A4) (a5 : A5) (a6 : A6) (a7 : A7) (a8 : A8) (a9 : A9) (a10 : A10) (ls : Array Slot), I a1 a2 a3 a4 a5 a6 a7 a8 a9 a10 ls → (∀ (b1 : A1) (b2 : A2) (b3 : A3) (b4 : A4) (b5 : A5) (b6 : A6) (b7 : A7) (b8 : A8) (b9 : A9) (b10 : A10) (ls' : Array Slot), I b1 b2 b3 b4 b5 b6 b7 b8 b9 b10 ls' → μ b1 b2 b3 b4 b5 b6 b7 b8 b9 b10 < μ a1 a2 a3 a4 a5 a6 a7 a8 a9 a10 → W p l e R s m args below meth c H locs cells slots Q (F0 m pc ls' [])) → W p l e R s m args below meth c H locs cells slots Q (F0 m pc ls [])) : W p l e R s m args below meth c H locs cells slots Q (F0 m pc ls []) := by
  have key : ∀ (n : Nat) (a1 : A1) (a2 : A2) (a3 : A3) (a4 : A4) (a5 : A5) (a6 : A6) (a7 : A7) (a8 : A8) (a9 : A9) (a10 : A10) (ls : Array Slot), I a1 a2 a3 a4 a5 a6 a7 a8 a9 a10 ls → μ a1 a2 a3 a4 a5 a6 a7 a8 a9 a10 < n → W p l e R s m args below meth c H locs cells slots Q (F0 m pc ls []) := by
    intro n
    induction n with
    | zero => intro a1 a2 a3 a4 a5 a6 a7 a8 a9 a10 ls _ h; omega
    | succ n ih => intro a1 a2 a3 a4 a5 a6 a7 a8 a9 a10 ls hI h; exact step a1 a2 a3 a4 a5 a6 a7 a8 a9 a10 ls hI (fun b1 b2 b3 b4 b5 b6 b7 b8 b9 b10 ls' hI' h' => ih b1 b2 b3 b4 b5 b6 b7 b8 b9 b10 ls' hI' (by omega))
  exact key _ a1 a2 a3 a4 a5 a6 a7 a8 a9 a10 ls h0 (Nat.lt_succ_self _)
theorem kz_loopW10 {A1 A2 A3 A4 A5 A6 A7 A8 A9 A10 : Type} {pc : Nat} (I : A1 → A2 → A3 → A4 → A5 → A6 → A7 → A8 → A9 → A10 → Heap → List Loc → Array Slot → Prop) (μ : A1 → A2 → A3 → A4 → A5 → A6 → A7 → A8 → A9 → A10 → Nat) (a1 : A1) (a2 : A2) (a3 : A3) (a4 : A4) (a5 : A5) (a6 : A6) (a7 : A7) (a8 : A8) (a9 : A9) (a10 : A10) (h0 : I a1 a2 a3 a4 a5 a6 a7 a8 a9 a10 H locs ls) (step : ∀ (a1 : A1) (a2 : A2) (a3 : A3) (a4 : A4) (a5 : A5) (a6 : A6) (a7 : A7) (a8 : A8) (a9 : A9) (a10 : A10) (H : Heap) (locs : List Loc) (ls : Array Slot), I a1 a2 a3 a4 a5 a6 a7 a8 a9 a10 H locs ls → (∀ (b1 : A1) (b2 : A2) (b3 : A3) (b4 : A4) (b5 : A5) (b6 : A6) (b7 : A7) (b8 : A8) (b9 : A9) (b10 : A10) (H' : Heap) (locs' : List Loc) (ls' : Array Slot), I b1 b2 b3 b4 b5 b6 b7 b8 b9 b10 H' locs' ls' → μ b1 b2 b3 b4 b5 b6 b7 b8 b9 b10 < μ a1 a2 a3 a4 a5 a6 a7 a8 a9 a10 → W p l e R s m args below meth c H' locs' cells slots Q (F0 m pc ls' [])) → W p l e R s m args below meth c H locs cells slots Q (F0 m pc ls [])) : W p l e R s m args below meth c H locs cells slots Q (F0 m pc ls []) := by
  have key : ∀ (n : Nat) (a1 : A1) (a2 : A2) (a3 : A3) (a4 : A4) (a5 : A5) (a6 : A6) (a7 : A7) (a8 : A8) (a9 : A9) (a10 : A10) (H : Heap) (locs : List Loc) (ls : Array Slot), I a1 a2 a3 a4 a5 a6 a7 a8 a9 a10 H locs ls → μ a1 a2 a3 a4 a5 a6 a7 a8 a9 a10 < n → W p l e R s m args below meth c H locs cells slots Q (F0 m pc ls []) := by
    intro n
    induction n with
    | zero => intro a1 a2 a3 a4 a5 a6 a7 a8 a9 a10 H locs ls _ h; omega
    | succ n ih => intro a1 a2 a3 a4 a5 a6 a7 a8 a9 a10 H locs ls hI h; exact step a1 a2 a3 a4 a5 a6 a7 a8 a9 a10 H locs ls hI (fun b1 b2 b3 b4 b5 b6 b7 b8 b9 b10 H' locs' ls' hI' h' => ih b1 b2 b3 b4 b5 b6 b7 b8 b9 b10 H' locs' ls' hI' (by omega))
  exact key _ a1 a2 a3 a4 a5 a6 a7 a8 a9 a10 H locs ls h0 (Nat.lt_succ_self _)
theorem kz_loopR11 {A1 A2 A3 A4 A5 A6 A7 A8 A9 A10 A11 : Type} {pc : Nat} (I : A1 → A2 → A3 → A4 → A5 → A6 → A7 → A8 → A9 → A10 → A11 → Array Slot → Prop) (μ : A1 → A2 → A3 → A4 → A5 → A6 → A7 → A8 → A9 → A10 → A11 → Nat) (a1 : A1) (a2 : A2) (a3 : A3) (a4 : A4) (a5 : A5) (a6 : A6) (a7 : A7) (a8 : A8) (a9 : A9) (a10 : A10) (a11 : A11) (h0 : I a1 a2 a3 a4 a5 a6 a7 a8 a9 a10 a11 ls) (step : ∀ (a1 : A1) (a2 : A2) (a3 : A3) (a4 : A4) (a5 : A5) (a6 : A6) (a7 : A7) (a8 : A8) (a9 : A9) (a10 : A10) (a11 : A11) (ls : Array Slot), I a1 a2 a3 a4 a5 a6 a7 a8 a9 a10 a11 ls → (∀ (b1 : A1) (b2 : A2) (b3 : A3) (b4 : A4) (b5 : A5) (b6 : A6) (b7 : A7) (b8 : A8) (b9 : A9) (b10 : A10) (b11 : A11) (ls' : Array Slot), I b1 b2 b3 b4 b5 b6 b7 b8 b9 b10 b11 ls' → μ b1 b2 b3 b4 b5 b6 b7 b8 b9 b10 b11 < μ a1 a2 a3 a4 a5 a6 a7 a8 a9 a10 a11 → W p l e R s m args below meth c H locs cells slots Q (F0 m pc ls' [])) → W p l e R s m args below meth c H locs cells slots Q (F0 m pc ls [])) : W p l e R s m args below meth c H locs cells slots Q (F0 m pc ls []) := by
  have key : ∀ (n : Nat) (a1 : A1) (a2 : A2) (a3 : A3) (a4 : A4) (a5 : A5) (a6 : A6) (a7 : A7) (a8 : A8) (a9 : A9) (a10 : A10) (a11 : A11) (ls : Array Slot), I a1 a2 a3 a4 a5 a6 a7 a8 a9 a10 a11 ls → μ a1 a2 a3 a4 a5 a6 a7 a8 a9 a10 a11 < n → W p l e R s m args below meth c H locs cells slots Q (F0 m pc ls []) := by
    intro n
    induction n with
    | zero => intro a1 a2 a3 a4 a5 a6 a7 a8 a9 a10 a11 ls _ h; omega
    | succ n ih => intro a1 a2 a3 a4 a5 a6 a7 a8 a9 a10 a11 ls hI h; exact step a1 a2 a3 a4 a5 a6 a7 a8 a9 a10 a11 ls hI (fun b1 b2 b3 b4 b5 b6 b7 b8 b9 b10 b11 ls' hI' h' => ih b1 b2 b3 b4 b5 b6 b7 b8 b9 b10 b11 ls' hI' (by omega))
  exact key _ a1 a2 a3 a4 a5 a6 a7 a8 a9 a10 a11 ls h0 (Nat.lt_succ_self _)
theorem kz_loopW11 {A1 A2 A3 A4 A5 A6 A7 A8 A9 A10 A11 : Type} {pc : Nat} (I : A1 → A2 → A3 → A4 → A5 → A6 → A7 → A8 → A9 → A10 → A11 → Heap → List Loc → Array Slot → Prop) (μ : A1 → A2 → A3 → A4 → A5 → A6 → A7 → A8 → A9 → A10 → A11 → Nat) (a1 : A1) (a2 : A2) (a3 : A3) (a4 : A4) (a5 : A5) (a6 : A6) (a7 : A7) (a8 : A8) (a9 : A9) (a10 : A10) (a11 : A11) (h0 : I a1 a2 a3 a4 a5 a6 a7 a8 a9 a10 a11 H locs ls) (step : ∀ (a1 : A1) (a2 : A2) (a3 : A3) (a4 : A4) (a5 : A5) (a6 : A6) (a7 : A7) (a8 : A8) (a9 : A9) (a10 : A10) (a11 : A11) (H : Heap) (locs : List Loc) (ls : Array Slot), I a1 a2 a3 a4 a5 a6 a7 a8 a9 a10 a11 H locs ls → (∀ (b1 : A1) (b2 : A2) (b3 : A3) (b4 : A4) (b5 : A5) (b6 : A6) (b7 : A7) (b8 : A8) (b9 : A9) (b10 : A10) (b11 : A11) (H' : Heap) (locs' : List Loc) (ls' : Array Slot), I b1 b2 b3 b4 b5 b6 b7 b8 b9 b10 b11 H' locs' ls' → μ b1 b2 b3 b4 b5 b6 b7 b8 b9 b10 b11 < μ a1 a2 a3 a4 a5 a6 a7 a8 a9 a10 a11 → W p l e R s m args below meth c H' locs' cells slots Q (F0 m pc ls' [])) → W p l e R s m args below meth c H locs cells slots Q (F0 m pc ls [])) : W p l e R s m args below meth c H locs cells slots Q (F0 m pc ls []) := by
  have key : ∀ (n : Nat) (a1 : A1) (a2 : A2) (a3 : A3) (a4 : A4) (a5 : A5) (a6 : A6) (a7 : A7) (a8 : A8) (a9 : A9) (a10 : A10) (a11 : A11) (H : Heap) (locs : List Loc) (ls : Array Slot), I a1 a2 a3 a4 a5 a6 a7 a8 a9 a10 a11 H locs ls → μ a1 a2 a3 a4 a5 a6 a7 a8 a9 a10 a11 < n → W p l e R s m args below meth c H locs cells slots Q (F0 m pc ls []) := by
    intro n
    induction n with
    | zero => intro a1 a2 a3 a4 a5 a6 a7 a8 a9 a10 a11 H locs ls _ h; omega
    | succ n ih => intro a1 a2 a3 a4 a5 a6 a7 a8 a9 a10 a11 H locs ls hI h; exact step a1 a2 a3 a4 a5 a6 a7 a8 a9 a10 a11 H locs ls hI (fun b1 b2 b3 b4 b5 b6 b7 b8 b9 b10 b11 H' locs' ls' hI' h' => ih b1 b2 b3 b4 b5 b6 b7 b8 b9 b10 b11 H' locs' ls' hI' (by omega))
  exact key _ a1 a2 a3 a4 a5 a6 a7 a8 a9 a10 a11 H locs ls h0 (Nat.lt_succ_self _)
theorem kz_loopR12 {A1 A2 A3 A4 A5 A6 A7 A8 A9 A10 A11 A12 : Type} {pc : Nat} (I : A1 → A2 → A3 → A4 → A5 → A6 → A7 → A8 → A9 → A10 → A11 → A12 → Array Slot → Prop) (μ : A1 → A2 → A3 → A4 → A5 → A6 → A7 → A8 → A9 → A10 → A11 → A12 → Nat) (a1 : A1) (a2 : A2) (a3 : A3) (a4 : A4) (a5 : A5) (a6 : A6) (a7 : A7) (a8 : A8) (a9 : A9) (a10 : A10) (a11 : A11) (a12 : A12) (h0 : I a1 a2 a3 a4 a5 a6 a7 a8 a9 a10 a11 a12 ls) (step : ∀ (a1 : A1) (a2 : A2) (a3 : A3) (a4 : A4) (a5 : A5) (a6 : A6) (a7 : A7) (a8 : A8) (a9 : A9) (a10 : A10) (a11 : A11) (a12 : A12) (ls : Array Slot), I a1 a2 a3 a4 a5 a6 a7 a8 a9 a10 a11 a12 ls → (∀ (b1 : A1) (b2 : A2) (b3 : A3) (b4 : A4) (b5 : A5) (b6 : A6) (b7 : A7) (b8 : A8) (b9 : A9) (b10 : A10) (b11 : A11) (b12 : A12) (ls' : Array Slot), I b1 b2 b3 b4 b5 b6 b7 b8 b9 b10 b11 b12 ls' → μ b1 b2 b3 b4 b5 b6 b7 b8 b9 b10 b11 b12 < μ a1 a2 a3 a4 a5 a6 a7 a8 a9 a10 a11 a12 → W p l e R s m args below meth c H locs cells slots Q (F0 m pc ls' [])) → W p l e R s m args below meth c H locs cells slots Q (F0 m pc ls [])) : W p l e R s m args below meth c H locs cells slots Q (F0 m pc ls []) := by
  have key : ∀ (n : Nat) (a1 : A1) (a2 : A2) (a3 : A3) (a4 : A4) (a5 : A5) (a6 : A6) (a7 : A7) (a8 : A8) (a9 : A9) (a10 : A10) (a11 : A11) (a12 : A12) (ls : Array Slot), I a1 a2 a3 a4 a5 a6 a7 a8 a9 a10 a11 a12 ls → μ a1 a2 a3 a4 a5 a6 a7 a8 a9 a10 a11 a12 < n → W p l e R s m args below meth c H locs cells slots Q (F0 m pc ls []) := by
    intro n
    induction n with
    | zero => intro a1 a2 a3 a4 a5 a6 a7 a8 a9 a10 a11 a12 ls _ h; omega
    | succ n ih => intro a1 a2 a3 a4 a5 a6 a7 a8 a9 a10 a11 a12 ls hI h; exact step a1 a2 a3 a4 a5 a6 a7 a8 a9 a10 a11 a12 ls hI (fun b1 b2 b3 b4 b5 b6 b7 b8 b9 b10 b11 b12 ls' hI' h' => ih b1 b2 b3 b4 b5 b6 b7 b8 b9 b10 b11 b12 ls' hI' (by omega))
  exact key _ a1 a2 a3 a4 a5 a6 a7 a8 a9 a10 a11 a12 ls h0 (Nat.lt_succ_self _)
theorem kz_loopW12 {A1 A2 A3 A4 A5 A6 A7 A8 A9 A10 A11 A12 : Type} {pc : Nat} (I : A1 → A2 → A3 → A4 → A5 → A6 → A7 → A8 → A9 → A10 → A11 → A12 → Heap → List Loc → Array Slot → Prop) (μ : A1 → A2 → A3 → A4 → A5 → A6 → A7 → A8 → A9 → A10 → A11 → A12 → Nat) (a1 : A1) (a2 : A2) (a3 : A3) (a4 : A4) (a5 : A5) (a6 : A6) (a7 : A7) (a8 : A8) (a9 : A9) (a10 : A10) (a11 : A11) (a12 : A12) (h0 : I a1 a2 a3 a4 a5 a6 a7 a8 a9 a10 a11 a12 H locs ls) (step : ∀ (a1 : A1) (a2 : A2) (a3 : A3) (a4 : A4) (a5 : A5) (a6 : A6) (a7 : A7) (a8 : A8) (a9 : A9) (a10 : A10) (a11 : A11) (a12 : A12) (H : Heap) (locs : List Loc) (ls : Array Slot), I a1 a2 a3 a4 a5 a6 a7 a8 a9 a10 a11 a12 H locs ls → (∀ (b1 : A1) (b2 : A2) (b3 : A3) (b4 : A4) (b5 : A5) (b6 : A6) (b7 : A7) (b8 : A8) (b9 : A9) (b10 : A10) (b11 : A11) (b12 : A12) (H' : Heap) (locs' : List Loc) (ls' : Array Slot), I b1 b2 b3 b4 b5 b6 b7 b8 b9 b10 b11 b12 H' locs' ls' → μ b1 b2 b3 b4 b5 b6 b7 b8 b9 b10 b11 b12 < μ a1 a2 a3 a4 a5 a6 a7 a8 a9 a10 a11 a12 → W p l e R s m args below meth c H' locs' cells slots Q (F0 m pc ls' [])) → W p l e R s m args below meth c H locs cells slots Q (F0 m pc ls [])) : W p l e R s m args below meth c H locs cells slots Q (F0 m pc ls []) := by
  have key : ∀ (n : Nat) (a1 : A1) (a2 : A2) (a3 : A3) (a4 : A4) (a5 : A5) (a6 : A6) (a7 : A7) (a8 : A8) (a9 : A9) (a10 : A10) (a11 : A11) (a12 : A12) (H : Heap) (locs : List Loc) (ls : Array Slot), I a1 a2 a3 a4 a5 a6 a7 a8 a9 a10 a11 a12 H locs ls → μ a1 a2 a3 a4 a5 a6 a7 a8 a9 a10 a11 a12 < n → W p l e R s m args below meth c H locs cells slots Q (F0 m pc ls []) := by
    intro n
    induction n with
    | zero => intro a1 a2 a3 a4 a5 a6 a7 a8 a9 a10 a11 a12 H locs ls _ h; omega
    | succ n ih => intro a1 a2 a3 a4 a5 a6 a7 a8 a9 a10 a11 a12 H locs ls hI h; exact step a1 a2 a3 a4 a5 a6 a7 a8 a9 a10 a11 a12 H locs ls hI (fun b1 b2 b3 b4 b5 b6 b7 b8 b9 b10 b11 b12 H' locs' ls' hI' h' => ih b1 b2 b3 b4 b5 b6 b7 b8 b9 b10 b11 b12 H' locs' ls' hI' (by omega))
  exact key _ a1 a2 a3 a4 a5 a6 a7 a8 a9 a10 a11 a12 H locs ls h0 (Nat.lt_succ_self _)
theorem kz_iinc (hx : p.tables.exec = Jvm.exec) (hb : c.code = cc) {i nL k : Nat} {n a b : Int} {lv lv' : List (Nat × Value)} (hdg : decode cc pc = .ok (.iinc i n, 3)) (h : lv_has ls nL lv) (hk : lv[k]? = some (i, .int (iz a))) (hv : a + n = b) (hn : i < nL) (hl : (i, Value.int (iz b)) :: lv.filter (fun q => !(q.1 == i) && !(q.1 + 1 == i && q.2.category == 2)) = lv') (kk : ∀ ls' : Array Slot, lv_has ls' nL lv' → W p l e R s m args below meth c H locs cells slots Q (F0 m (pc + 3) ls' rest)) : W p l e R s m args below meth c H locs cells slots Q (F0 m pc ls rest) := lv_iinc (v := iz b) hx hb hdg h hk (by rw [← hv]; exact iz_add a n) hn hl kk
theorem kz_tableIn (hx : p.tables.exec = Jvm.exec) (hb : c.code = cc) {dflt lo hi : Int} {offs : Array Int} {len : Nat} {a v : Int} {off : Int} {tgt : Nat} (hdg : decode cc pc = .ok (.tableswitch dflt lo hi offs, len)) (h : a = v) (hv : lo ≤ v ∧ v ≤ hi ∧ -2147483648 ≤ v ∧ v < 2147483648) (ho : offs[(v - lo).toNat]? = some off) (ht : (pc : Int) + off = (tgt : Int)) (k : W p l e R s m args below meth c H locs cells slots Q (F0 m tgt ls rest)) : W p l e R s m args below meth c H locs cells slots Q (F0 m pc ls (.int (iz a) :: rest)) := by
  subst h
  have e := iz_toInt hv.2.2
  exact lv_tableIn hx hb hdg (by rw [e]; omega) (by rw [e]; omega) (by rw [e]; exact ho) ht k
theorem kz_tableOut (hx : p.tables.exec = Jvm.exec) (hb : c.code = cc) {dflt lo hi : Int} {offs : Array Int} {len : Nat} {a : Int} {tgt : Nat} (hdg : decode cc pc = .ok (.tableswitch dflt lo hi offs, len)) (ha : -2147483648 ≤ a ∧ a < 2147483648) (h : a < lo ∨ hi < a) (ht : (pc : Int) + dflt = (tgt : Int)) (k : W p l e R s m args below meth c H locs cells slots Q (F0 m tgt ls rest)) : W p l e R s m args below meth c H locs cells slots Q (F0 m pc ls (.int (iz a) :: rest)) := lv_tableOut hx hb hdg (by rw [iz_toInt ha]; exact h) ht k
theorem kz_lookIn (hx : p.tables.exec = Jvm.exec) (hb : c.code = cc) {dflt : Int} {ps : Array (Int × Int)} {len : Nat} {a v : Int} {off : Int} {tgt : Nat} (hdg : decode cc pc = .ok (.lookupswitch dflt ps, len)) (hp : (ps.toList.zip (ps.toList.drop 1)).all (fun (a, next) => a.1 < next.1) = true) (h : a = v) (hv : -2147483648 ≤ v ∧ v < 2147483648) (ho : Op.lookupswitch.offset ps.toList dflt v = off) (ht : (pc : Int) + off = (tgt : Int)) (k : W p l e R s m args below meth c H locs cells slots Q (F0 m tgt ls rest)) : W p l e R s m args below meth c H locs cells slots Q (F0 m pc ls (.int (iz a) :: rest)) := by
  subst h
  exact lv_lookup hx hb hdg hp (by rw [iz_toInt hv]; exact ho) ht k
theorem kz_lookOut (hx : p.tables.exec = Jvm.exec) (hb : c.code = cc) {dflt : Int} {ps : Array (Int × Int)} {len : Nat} {a : Int} {tgt : Nat} (hdg : decode cc pc = .ok (.lookupswitch dflt ps, len)) (hp : (ps.toList.zip (ps.toList.drop 1)).all (fun (a, next) => a.1 < next.1) = true) (ha : -2147483648 ≤ a ∧ a < 2147483648) (ho : Op.lookupswitch.offset ps.toList dflt a = dflt) (ht : (pc : Int) + dflt = (tgt : Int)) (k : W p l e R s m args below meth c H locs cells slots Q (F0 m tgt ls rest)) : W p l e R s m args below meth c H locs cells slots Q (F0 m pc ls (.int (iz a) :: rest)) := lv_lookup hx hb hdg hp (by rw [iz_toInt ha]; exact ho) ht k
end KZ
