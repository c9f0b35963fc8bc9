set_option maxHeartbeats 4000000 in
set_option maxRecDepth 100000 in
theorem c_X6_copyRowT (l : Launch) (D : va_G) (T : Nat → ClassId) (sz : Nat) (b0 : Nat) (n0 : Nat) (F : Nat → Int) (a1 : Nat) (n1 : Nat) (G : Nat → Int) (hb1 : b0 < sz) (hb2 : b0 ≠ a1) (hn0 : n0 ≤ 1000) (hn1 : n1 ≤ 1000) : Met l yX6_copyRow wsX6_copyRow ({ frames := 1, cells := 0, slots := 0, locals := 60 }) (kPcY D T [.ref b0, .ref a1] b0 n0 F (kW D sz [(a1, .inl (T 0, n1, .inl (zA G)))])) (va_Qv (fun (u : Unit) => True) (fun (u : Unit) (t : State) => va_P D vwCl [(a1, .inl (T 0, n1, .inl (zA (zmix (min n0 n1) F G))))] t.heap) (va_A [(a1, .inl (T 0, n1, .inl (zA G)))] sz)) 0 0 (va_A [(a1, .inl (T 0, n1, .inl (zA G)))] sz) := by
  refine Met.ofW (cc := cX6_copyRow) (maxL := 2) (ret := none) (by decide) rfl ?_
  intro p e s m args below meth c s₁ B hml hv
  obtain ⟨rfl, hK, hX, hsz, hP, hD0⟩ := hv
  have hx := B.exec
  have hb := B.bytes
  have hr := B.returns
  have hts := atoms_spec (ws := wsX6_copyRow) B.pre
  have hown : s.vm.findClass RX6 = some m.cls := findClass_of_methodNamed B.named
  have hlocks := B.notSynchronized
  have w0 := hts (.methodLink RX6 257 Lib.Math.min.name) (List.mem_of_getElem? (i := 1) rfl)
  have w1 := hts (.static Lib.Math.min.name) (List.mem_of_getElem? (i := 2) rfl)
  have w2 := hts (.initialized "java/lang/Math") (List.mem_of_getElem? (i := 3) rfl)
  have w3 := hts (.code Lib.Math.min.name Lib.Math.min.code 2 (some .int)) (List.mem_of_getElem? (i := 4) rfl)
  have w4 := hts (.methodLink RX6 262 arraycopyName) (List.mem_of_getElem? (i := 5) rfl)
  have w5 := hts (.native arraycopyName) (List.mem_of_getElem? (i := 6) rfl)
  have w6 := hts (.static arraycopyName) (List.mem_of_getElem? (i := 7) rfl)
  have w7 := hts (.initialized "java/lang/System") (List.mem_of_getElem? (i := 8) rfl)
  subst hsz
  have hD := hD0.self (sz := s.heap.size)
  have hbA : ¬ va_A [(a1, .inl (T 0, n1, .inl (zA G)))] s.heap.size b0 := by
    rintro (⟨k9, e9, hk9⟩ | h9)
    · have h9 : k9 < 1 := (List.getElem?_eq_some_iff.mp hk9).1
      rw [show k9 = 0 by omega] at hk9
      exact hb2 (congrArg Prod.fst (Option.some.inj hk9)).symm
    · omega
  generalize hAe : va_A [(a1, .inl (T 0, n1, .inl (zA G)))] s.heap.size = A at hD hbA ⊢
  have hA : ∀ q : Nat, s.heap.size ≤ q → A q := fun q h => by rw [← hAe]; exact Or.inr h
  have hS : va_S A s.heap s.heap [] := va_S.rf
  have hP : va_P D vwCl [(a1, .inl (T 0, n1, .inl (zA G)))] s.heap := hP
  have hl := lv_entry ([.ref b0, .ref a1]) (n := 2) (Nat.le_of_ble_eq_true rfl)
  rw [lg_entry_eq]
  generalize (lg_sl ([.ref b0, .ref a1]) ++ List.replicate (2 - (lg_sl ([.ref b0, .ref a1])).length) Slot.unset).toArray = ls at hl ⊢
  have hl : lv_has ls 2 [(0, .ref b0), (1, .ref a1)] := hl
  refine lv_aload_n hx hb dX6_copyRow_0 rfl (lv_at hl 0 rfl) ?_
  refine lv_iconst (v := iz (0)) hx hb dX6_copyRow_1 (by decide) ?_
  refine lv_aload_n hx hb dX6_copyRow_2 rfl (lv_at hl 1 rfl) ?_
  refine lv_iconst (v := iz (0)) hx hb dX6_copyRow_3 (by decide) ?_
  refine lv_aload_n hx hb dX6_copyRow_4 rfl (lv_at hl 0 rfl) ?_
  refine kz_slenY hx hb hX hb1 hbA hS dX6_copyRow_5 ?_
  refine lv_aload_n hx hb dX6_copyRow_6 rfl (lv_at hl 1 rfl) ?_
  refine va_alen (v := iz ((n1 : Nat) : Int)) hx hb hK.1 hP 0 0 rfl rfl (by rw [iz_nI]; rfl) dX6_copyRow_7 ?_
  refine kz_mmin hx hb (by rw [hml]; exact hl.1.symm) hown w0 w1 w2 w3 (Nat.le_of_ble_eq_true rfl) (Nat.le_of_ble_eq_true rfl) (Nat.zero_le _) (Nat.zero_le _) (by omega) (by omega) dX6_copyRow_8 ?_
  refine kz_top (y := ((min n0 n1 : Nat) : Int)) (by omega) ?_
  refine k_copyY hx hb (by rw [hml]; exact hl.1.symm) hown w4 w5 w6 w7 hK hP hD hS hX hb1 hbA 0 rfl (min n0 n1) (by omega) (by omega) (by omega) (Nat.le_of_ble_eq_true rfl) (by decide) dX6_copyRow_11 (fun H locs hP hD hS => ?_)
  have hP : va_P D vwCl [(a1, .inl (T 0, n1, .inl (zA (zmix (min n0 n1) F G))))] H := hP
  have hD : va_D A [(a1, .inl (T 0, n1, .inl (zA (zmix (min n0 n1) F G))))] := hD
  exact W.vret hx hb hr (fun t ht hW => ⟨⟨(), rfl, trivial, by show va_P _ _ _ t.heap; rw [ht]; exact hP⟩, hS.F ht⟩) hS.2.2 dX6_copyRow_14
set_option maxHeartbeats 4000000 in
set_option maxRecDepth 100000 in
theorem c_X3_init (l : Launch) (D : va_G) (T : Nat → ClassId) (sz : Nat) (hp : Nat) : Met l yX3_init wsX3_init ({ frames := 1, cells := 1, slots := 80, locals := 12 }) (kPc D T [.ref hp] (kW D sz [(hp, .inr (3, [.null, .int (iz (0))]))])) (va_Qv (fun (u : Nat) => True) (fun (u : Nat) (t : State) => va_P D vwCl [(hp, .inr (3, [.ref u, .int (iz (0))])), (u, .inl (T 3, 80, .inl (zA (fun _ => 0))))] t.heap ∧ va_D (va_A [(hp, .inr (3, [.null, .int (iz (0))]))] sz) [(hp, .inr (3, [.ref u, .int (iz (0))])), (u, .inl (T 3, 80, .inl (zA (fun _ => 0))))]) (va_A [(hp, .inr (3, [.null, .int (iz (0))]))] sz)) 1 80 (va_A [(hp, .inr (3, [.null, .int (iz (0))]))] sz) := by
  refine Met.ofW (cc := cX3_init) (maxL := 1) (ret := none) (by decide) rfl ?_
  intro p e s m args below meth c s₁ B hml hv
  obtain ⟨rfl, hK, hsz, hP, hD0⟩ := hv
  have hx := B.exec
  have hb := B.bytes
  have hr := B.returns
  have hts := atoms_spec (ws := wsX3_init) B.pre
  have hown : s.vm.findClass RX3 = some m.cls := findClass_of_methodNamed B.named
  have hlocks := B.notSynchronized
  have w0 := hts (.methodLink RX3 3 objectInit) (List.mem_of_getElem? (i := 1) rfl)
  have w1 := hts (.instanceMethod objectInit) (List.mem_of_getElem? (i := 2) rfl)
  have w2 := hts (.code objectInit ⟨#[0xb1]⟩ 1 none) (List.mem_of_getElem? (i := 3) rfl)
  have w3 := hts (.arrayClass .char) (List.mem_of_getElem? (i := 4) rfl)
  have w4 := hts (.fieldLink RX3 9 "LakePlant$Pad" "signs" "[C") (List.mem_of_getElem? (i := 5) rfl)
  have w5 : ∀ w ∈ wsX30, w ∈ wsX3_init := by decide +kernel
  have w6 := hts (.fieldLink RX3 15 "LakePlant$Pad" "length" "I") (List.mem_of_getElem? (i := 6) rfl)
  subst hsz
  have hD := hD0.self (sz := s.heap.size)
  have hin : meth.name = "<init>" := (name_of_methodNamed B.named B.method).1
  generalize hAe : va_A [(hp, .inr (3, [.null, .int (iz (0))]))] s.heap.size = A at hD ⊢
  have hA : ∀ q : Nat, s.heap.size ≤ q → A q := fun q h => by rw [← hAe]; exact Or.inr h
  have hS : va_S A s.heap s.heap [] := va_S.rf
  have hP : va_P D vwCl [(hp, .inr (3, [.null, .int (iz (0))]))] s.heap := hP
  have hl := lv_entry ([.ref hp]) (n := 1) (Nat.le_of_ble_eq_true rfl)
  rw [lg_entry_eq]
  generalize (lg_sl ([.ref hp]) ++ List.replicate (1 - (lg_sl ([.ref hp])).length) Slot.unset).toArray = ls at hl ⊢
  have hl : lv_has ls 1 [(0, .ref hp)] := hl
  refine lv_aload_n hx hb dX3_init_0 rfl (lv_at hl 0 rfl) ?_
  refine W.objInit hx hb hown w0 w1 w2 rfl (by rw [hml]; exact hl.1) rfl dX3_init_1 (Nat.le_of_ble_eq_true rfl) (Nat.le_of_ble_eq_true rfl) ?_
  refine W.eq (g2 := F0 m 4 ls []) rfl ?_
  refine lv_aload_n hx hb dX3_init_4 rfl (lv_at hl 0 rfl) ?_
  refine lv_bipush (v := iz (80)) hx hb dX3_init_5 (by decide) ?_
  refine kz_newa (atype := .char) hx hb hK hP hD hS hA 3 rfl w3 rfl (N := 80) rfl (by omega) (by show 80 * 2 ≤ 536870912; omega) (Nat.le_of_ble_eq_true rfl) (Nat.le_of_ble_eq_true rfl) dX3_init_7 (fun q1 H hP hD hS => ?_)
  have hP : va_P D vwCl [(hp, .inr (3, [.null, .int (iz (0))])), (q1, .inl (T 3, 80, .inl (zA (fun _ => 0))))] H := hP
  have hD : va_D A [(hp, .inr (3, [.null, .int (iz (0))])), (q1, .inl (T 3, 80, .inl (zA (fun _ => 0))))] := hD
  refine va_putF (D := D) (ci := 3) (v := .ref q1) (ty := .array .char) (C := RX3) (T := TX3) (N := 2) hx hb hts w5 tyX3 tyX3_ok nmX3 hown hK.1 hP hD hS 0 rfl rfl 0 (by decide) w4 (fun _ h9 => h9) rfl hin rfl (by decide +kernel) rfl rfl (Nat.le_of_ble_eq_true rfl) dX3_init_9 (fun H locs hP hD hS => ?_)
  have hP : va_P D vwCl [(hp, .inr (3, [.ref q1, .int (iz (0))])), (q1, .inl (T 3, 80, .inl (zA (fun _ => 0))))] H := hP
  have hD : va_D A [(hp, .inr (3, [.ref q1, .int (iz (0))])), (q1, .inl (T 3, 80, .inl (zA (fun _ => 0))))] := hD
  refine lv_aload_n hx hb dX3_init_12 rfl (lv_at hl 0 rfl) ?_
  refine lv_iconst (v := iz (0)) hx hb dX3_init_13 (by decide) ?_
  refine va_put (D := D) (ci := 3) (v := .int (iz (0))) (ty := .int) (C := RX3) (T := TX3) (N := 2) hx hb hts w5 tyX3 tyX3_ok nmX3 hown hK.1 hP hD hS 0 rfl rfl 1 (by decide) w6 (fun _ h9 => h9) rfl (by decide +kernel) rfl rfl (Nat.le_of_ble_eq_true rfl) dX3_init_14 (fun H locs hP hD hS => ?_)
  have hP : va_P D vwCl [(hp, .inr (3, [.ref q1, .int (iz (0))])), (q1, .inl (T 3, 80, .inl (zA (fun _ => 0))))] H := hP
  have hD : va_D A [(hp, .inr (3, [.ref q1, .int (iz (0))])), (q1, .inl (T 3, 80, .inl (zA (fun _ => 0))))] := hD
  refine W.widen (k := 1) (n := 80) (Nat.le_of_ble_eq_true rfl) (Nat.le_of_ble_eq_true rfl) ?_
  exact W.vret hx hb hr (fun t ht hW => ⟨⟨q1, rfl, trivial, by show va_P _ _ _ t.heap ∧ va_D _ _; rw [ht]; exact ⟨hP, hD⟩⟩, hS.F ht⟩) hS.2.2 dX3_init_17
set_option maxHeartbeats 4000000 in
set_option maxRecDepth 100000 in
theorem c_X4_init (l : Launch) (D : va_G) (T : Nat → ClassId) (sz : Nat) (ho : Nat) (hp : Nat) : Met l yX4_init wsX4_init ({ frames := 1, cells := 0, slots := 0, locals := 12 }) (kPc D T [.ref ho, .ref hp] (kW D sz [(ho, .inr (4, [.null, .int (iz (0)), .int (iz (0)), .int (iz (0)), .int (iz (0)), .int (iz (0)), .int (iz (0)), .int (iz (0)), .int (iz (0)), .int (iz (0))]))])) (va_Qv (fun (u : Unit) => True) (fun (u : Unit) (t : State) => va_P D vwCl [(ho, .inr (4, [.ref hp, .int (iz (0)), .int (iz (0)), .int (iz (0)), .int (iz (0)), .int (iz (0)), .int (iz (0)), .int (iz (0)), .int (iz (0)), .int (iz (0))]))] t.heap ∧ va_D (va_A [(ho, .inr (4, [.null, .int (iz (0)), .int (iz (0)), .int (iz (0)), .int (iz (0)), .int (iz (0)), .int (iz (0)), .int (iz (0)), .int (iz (0)), .int (iz (0))]))] sz) [(ho, .inr (4, [.ref hp, .int (iz (0)), .int (iz (0)), .int (iz (0)), .int (iz (0)), .int (iz (0)), .int (iz (0)), .int (iz (0)), .int (iz (0)), .int (iz (0))]))]) (va_A [(ho, .inr (4, [.null, .int (iz (0)), .int (iz (0)), .int (iz (0)), .int (iz (0)), .int (iz (0)), .int (iz (0)), .int (iz (0)), .int (iz (0)), .int (iz (0))]))] sz)) 0 0 (va_A [(ho, .inr (4, [.null, .int (iz (0)), .int (iz (0)), .int (iz (0)), .int (iz (0)), .int (iz (0)), .int (iz (0)), .int (iz (0)), .int (iz (0)), .int (iz (0))]))] sz) := by
  refine Met.ofW (cc := cX4_init) (maxL := 2) (ret := none) (by decide) rfl ?_
  intro p e s m args below meth c s₁ B hml hv
  obtain ⟨rfl, hK, hsz, hP, hD0⟩ := hv
  have hx := B.exec
  have hb := B.bytes
  have hr := B.returns
  have hts := atoms_spec (ws := wsX4_init) B.pre
  have hown : s.vm.findClass RX4 = some m.cls := findClass_of_methodNamed B.named
  have hlocks := B.notSynchronized
  have w0 := hts (.methodLink RX4 3 objectInit) (List.mem_of_getElem? (i := 1) rfl)
  have w1 := hts (.instanceMethod objectInit) (List.mem_of_getElem? (i := 2) rfl)
  have w2 := hts (.code objectInit ⟨#[0xb1]⟩ 1 none) (List.mem_of_getElem? (i := 3) rfl)
  have w3 := hts (.fieldLink RX4 9 "LakePlant$Reader" "at" "I") (List.mem_of_getElem? (i := 4) rfl)
  have w4 : ∀ w ∈ wsX40, w ∈ wsX4_init := by decide +kernel
  have w5 := hts (.fieldLink RX4 15 "LakePlant$Reader" "number" "I") (List.mem_of_getElem? (i := 5) rfl)
  have w6 := hts (.fieldLink RX4 18 "LakePlant$Reader" "kind" "C") (List.mem_of_getElem? (i := 6) rfl)
  have w7 := hts (.fieldLink RX4 22 "LakePlant$Reader" "first" "I") (List.mem_of_getElem? (i := 7) rfl)
  have w8 := hts (.fieldLink RX4 25 "LakePlant$Reader" "last" "I") (List.mem_of_getElem? (i := 8) rfl)
  have w9 := hts (.fieldLink RX4 28 "LakePlant$Reader" "value" "I") (List.mem_of_getElem? (i := 9) rfl)
  have w10 := hts (.fieldLink RX4 31 "LakePlant$Reader" "units" "I") (List.mem_of_getElem? (i := 10) rfl)
  have w11 := hts (.fieldLink RX4 34 "LakePlant$Reader" "bonus" "I") (List.mem_of_getElem? (i := 11) rfl)
  have w12 := hts (.fieldLink RX4 37 "LakePlant$Reader" "fine" "I") (List.mem_of_getElem? (i := 12) rfl)
  have w13 := hts (.fieldLink RX4 40 "LakePlant$Reader" "pad" "LLakePlant$Pad;") (List.mem_of_getElem? (i := 13) rfl)
  subst hsz
  have hD := hD0.self (sz := s.heap.size)
  have hin : meth.name = "<init>" := (name_of_methodNamed B.named B.method).1
  generalize hAe : va_A [(ho, .inr (4, [.null, .int (iz (0)), .int (iz (0)), .int (iz (0)), .int (iz (0)), .int (iz (0)), .int (iz (0)), .int (iz (0)), .int (iz (0)), .int (iz (0))]))] s.heap.size = A at hD ⊢
  have hA : ∀ q : Nat, s.heap.size ≤ q → A q := fun q h => by rw [← hAe]; exact Or.inr h
  have hS : va_S A s.heap s.heap [] := va_S.rf
  have hP : va_P D vwCl [(ho, .inr (4, [.null, .int (iz (0)), .int (iz (0)), .int (iz (0)), .int (iz (0)), .int (iz (0)), .int (iz (0)), .int (iz (0)), .int (iz (0)), .int (iz (0))]))] s.heap := hP
  have hl := lv_entry ([.ref ho, .ref hp]) (n := 2) (Nat.le_of_ble_eq_true rfl)
  rw [lg_entry_eq]
  generalize (lg_sl ([.ref ho, .ref hp]) ++ List.replicate (2 - (lg_sl ([.ref ho, .ref hp])).length) Slot.unset).toArray = ls at hl ⊢
  have hl : lv_has ls 2 [(0, .ref ho), (1, .ref hp)] := hl
  refine lv_aload_n hx hb dX4_init_0 rfl (lv_at hl 0 rfl) ?_
  refine W.objInit hx hb hown w0 w1 w2 rfl (by rw [hml]; exact hl.1) rfl dX4_init_1 (Nat.le_of_ble_eq_true rfl) (Nat.le_of_ble_eq_true rfl) ?_
  refine W.eq (g2 := F0 m 4 ls []) rfl ?_
  refine lv_aload_n hx hb dX4_init_4 rfl (lv_at hl 0 rfl) ?_
  refine lv_iconst (v := iz (0)) hx hb dX4_init_5 (by decide) ?_
  refine va_put (D := D) (ci := 4) (v := .int (iz (0))) (ty := .int) (C := RX4) (T := TX4) (N := 10) hx hb hts w4 tyX4 tyX4_ok nmX4 hown hK.1 hP hD hS 0 rfl rfl 1 (by decide) w3 (fun _ h9 => h9) rfl (by decide +kernel) rfl rfl (Nat.le_of_ble_eq_true rfl) dX4_init_6 (fun H locs hP hD hS => ?_)
  have hP : va_P D vwCl [(ho, .inr (4, [.null, .int (iz (0)), .int (iz (0)), .int (iz (0)), .int (iz (0)), .int (iz (0)), .int (iz (0)), .int (iz (0)), .int (iz (0)), .int (iz (0))]))] H := hP
  have hD : va_D A [(ho, .inr (4, [.null, .int (iz (0)), .int (iz (0)), .int (iz (0)), .int (iz (0)), .int (iz (0)), .int (iz (0)), .int (iz (0)), .int (iz (0)), .int (iz (0))]))] := hD
  refine lv_aload_n hx hb dX4_init_9 rfl (lv_at hl 0 rfl) ?_
  refine lv_iconst (v := iz (0)) hx hb dX4_init_10 (by decide) ?_
  refine va_put (D := D) (ci := 4) (v := .int (iz (0))) (ty := .int) (C := RX4) (T := TX4) (N := 10) hx hb hts w4 tyX4 tyX4_ok nmX4 hown hK.1 hP hD hS 0 rfl rfl 2 (by decide) w5 (fun _ h9 => h9) rfl (by decide +kernel) rfl rfl (Nat.le_of_ble_eq_true rfl) dX4_init_11 (fun H locs hP hD hS => ?_)
  have hP : va_P D vwCl [(ho, .inr (4, [.null, .int (iz (0)), .int (iz (0)), .int (iz (0)), .int (iz (0)), .int (iz (0)), .int (iz (0)), .int (iz (0)), .int (iz (0)), .int (iz (0))]))] H := hP
  have hD : va_D A [(ho, .inr (4, [.null, .int (iz (0)), .int (iz (0)), .int (iz (0)), .int (iz (0)), .int (iz (0)), .int (iz (0)), .int (iz (0)), .int (iz (0)), .int (iz (0))]))] := hD
  refine lv_aload_n hx hb dX4_init_14 rfl (lv_at hl 0 rfl) ?_
  refine lv_iconst (v := iz (0)) hx hb dX4_init_15 (by decide) ?_
  refine va_put (D := D) (ci := 4) (v := .int (iz (0))) (ty := .char) (C := RX4) (T := TX4) (N := 10) hx hb hts w4 tyX4 tyX4_ok nmX4 hown hK.1 hP hD hS 0 rfl rfl 3 (by decide) w6 (fun _ h9 => h9) rfl (by decide +kernel) rfl rfl (Nat.le_of_ble_eq_true rfl) dX4_init_16 (fun H locs hP hD hS => ?_)
  have hP : va_P D vwCl [(ho, .inr (4, [.null, .int (iz (0)), .int (iz (0)), .int (iz (0)), .int (iz (0)), .int (iz (0)), .int (iz (0)), .int (iz (0)), .int (iz (0)), .int (iz (0))]))] H := hP
  have hD : va_D A [(ho, .inr (4, [.null, .int (iz (0)), .int (iz (0)), .int (iz (0)), .int (iz (0)), .int (iz (0)), .int (iz (0)), .int (iz (0)), .int (iz (0)), .int (iz (0))]))] := hD
  refine lv_aload_n hx hb dX4_init_19 rfl (lv_at hl 0 rfl) ?_
  refine lv_iconst (v := iz (0)) hx hb dX4_init_20 (by decide) ?_
  refine va_put (D := D) (ci := 4) (v := .int (iz (0))) (ty := .int) (C := RX4) (T := TX4) (N := 10) hx hb hts w4 tyX4 tyX4_ok nmX4 hown hK.1 hP hD hS 0 rfl rfl 4 (by decide) w7 (fun _ h9 => h9) rfl (by decide +kernel) rfl rfl (Nat.le_of_ble_eq_true rfl) dX4_init_21 (fun H locs hP hD hS => ?_)
  have hP : va_P D vwCl [(ho, .inr (4, [.null, .int (iz (0)), .int (iz (0)), .int (iz (0)), .int (iz (0)), .int (iz (0)), .int (iz (0)), .int (iz (0)), .int (iz (0)), .int (iz (0))]))] H := hP
  have hD : va_D A [(ho, .inr (4, [.null, .int (iz (0)), .int (iz (0)), .int (iz (0)), .int (iz (0)), .int (iz (0)), .int (iz (0)), .int (iz (0)), .int (iz (0)), .int (iz (0))]))] := hD
  refine lv_aload_n hx hb dX4_init_24 rfl (lv_at hl 0 rfl) ?_
  refine lv_iconst (v := iz (0)) hx hb dX4_init_25 (by decide) ?_
  refine va_put (D := D) (ci := 4) (v := .int (iz (0))) (ty := .int) (C := RX4) (T := TX4) (N := 10) hx hb hts w4 tyX4 tyX4_ok nmX4 hown hK.1 hP hD hS 0 rfl rfl 5 (by decide) w8 (fun _ h9 => h9) rfl (by decide +kernel) rfl rfl (Nat.le_of_ble_eq_true rfl) dX4_init_26 (fun H locs hP hD hS => ?_)
  have hP : va_P D vwCl [(ho, .inr (4, [.null, .int (iz (0)), .int (iz (0)), .int (iz (0)), .int (iz (0)), .int (iz (0)), .int (iz (0)), .int (iz (0)), .int (iz (0)), .int (iz (0))]))] H := hP
  have hD : va_D A [(ho, .inr (4, [.null, .int (iz (0)), .int (iz (0)), .int (iz (0)), .int (iz (0)), .int (iz (0)), .int (iz (0)), .int (iz (0)), .int (iz (0)), .int (iz (0))]))] := hD
  refine lv_aload_n hx hb dX4_init_29 rfl (lv_at hl 0 rfl) ?_
  refine lv_iconst (v := iz (0)) hx hb dX4_init_30 (by decide) ?_
  refine va_put (D := D) (ci := 4) (v := .int (iz (0))) (ty := .int) (C := RX4) (T := TX4) (N := 10) hx hb hts w4 tyX4 tyX4_ok nmX4 hown hK.1 hP hD hS 0 rfl rfl 6 (by decide) w9 (fun _ h9 => h9) rfl (by decide +kernel) rfl rfl (Nat.le_of_ble_eq_true rfl) dX4_init_31 (fun H locs hP hD hS => ?_)
  have hP : va_P D vwCl [(ho, .inr (4, [.null, .int (iz (0)), .int (iz (0)), .int (iz (0)), .int (iz (0)), .int (iz (0)), .int (iz (0)), .int (iz (0)), .int (iz (0)), .int (iz (0))]))] H := hP
  have hD : va_D A [(ho, .inr (4, [.null, .int (iz (0)), .int (iz (0)), .int (iz (0)), .int (iz (0)), .int (iz (0)), .int (iz (0)), .int (iz (0)), .int (iz (0)), .int (iz (0))]))] := hD
  refine lv_aload_n hx hb dX4_init_34 rfl (lv_at hl 0 rfl) ?_
  refine lv_iconst (v := iz (0)) hx hb dX4_init_35 (by decide) ?_
  refine va_put (D := D) (ci := 4) (v := .int (iz (0))) (ty := .int) (C := RX4) (T := TX4) (N := 10) hx hb hts w4 tyX4 tyX4_ok nmX4 hown hK.1 hP hD hS 0 rfl rfl 7 (by decide) w10 (fun _ h9 => h9) rfl (by decide +kernel) rfl rfl (Nat.le_of_ble_eq_true rfl) dX4_init_36 (fun H locs hP hD hS => ?_)
  have hP : va_P D vwCl [(ho, .inr (4, [.null, .int (iz (0)), .int (iz (0)), .int (iz (0)), .int (iz (0)), .int (iz (0)), .int (iz (0)), .int (iz (0)), .int (iz (0)), .int (iz (0))]))] H := hP
  have hD : va_D A [(ho, .inr (4, [.null, .int (iz (0)), .int (iz (0)), .int (iz (0)), .int (iz (0)), .int (iz (0)), .int (iz (0)), .int (iz (0)), .int (iz (0)), .int (iz (0))]))] := hD
  refine lv_aload_n hx hb dX4_init_39 rfl (lv_at hl 0 rfl) ?_
  refine lv_iconst (v := iz (0)) hx hb dX4_init_40 (by decide) ?_
  refine va_put (D := D) (ci := 4) (v := .int (iz (0))) (ty := .int) (C := RX4) (T := TX4) (N := 10) hx hb hts w4 tyX4 tyX4_ok nmX4 hown hK.1 hP hD hS 0 rfl rfl 8 (by decide) w11 (fun _ h9 => h9) rfl (by decide +kernel) rfl rfl (Nat.le_of_ble_eq_true rfl) dX4_init_41 (fun H locs hP hD hS => ?_)
  have hP : va_P D vwCl [(ho, .inr (4, [.null, .int (iz (0)), .int (iz (0)), .int (iz (0)), .int (iz (0)), .int (iz (0)), .int (iz (0)), .int (iz (0)), .int (iz (0)), .int (iz (0))]))] H := hP
  have hD : va_D A [(ho, .inr (4, [.null, .int (iz (0)), .int (iz (0)), .int (iz (0)), .int (iz (0)), .int (iz (0)), .int (iz (0)), .int (iz (0)), .int (iz (0)), .int (iz (0))]))] := hD
  refine lv_aload_n hx hb dX4_init_44 rfl (lv_at hl 0 rfl) ?_
  refine lv_iconst (v := iz (0)) hx hb dX4_init_45 (by decide) ?_
  refine va_put (D := D) (ci := 4) (v := .int (iz (0))) (ty := .int) (C := RX4) (T := TX4) (N := 10) hx hb hts w4 tyX4 tyX4_ok nmX4 hown hK.1 hP hD hS 0 rfl rfl 9 (by decide) w12 (fun _ h9 => h9) rfl (by decide +kernel) rfl rfl (Nat.le_of_ble_eq_true rfl) dX4_init_46 (fun H locs hP hD hS => ?_)
  have hP : va_P D vwCl [(ho, .inr (4, [.null, .int (iz (0)), .int (iz (0)), .int (iz (0)), .int (iz (0)), .int (iz (0)), .int (iz (0)), .int (iz (0)), .int (iz (0)), .int (iz (0))]))] H := hP
  have hD : va_D A [(ho, .inr (4, [.null, .int (iz (0)), .int (iz (0)), .int (iz (0)), .int (iz (0)), .int (iz (0)), .int (iz (0)), .int (iz (0)), .int (iz (0)), .int (iz (0))]))] := hD
  refine lv_aload_n hx hb dX4_init_49 rfl (lv_at hl 0 rfl) ?_
  refine lv_aload_n hx hb dX4_init_50 rfl (lv_at hl 1 rfl) ?_
  refine va_putF (D := D) (ci := 4) (v := .ref hp) (ty := .object "LakePlant$Pad") (C := RX4) (T := TX4) (N := 10) hx hb hts w4 tyX4 tyX4_ok nmX4 hown hK.1 hP hD hS 0 rfl rfl 0 (by decide) w13 (fun _ h9 => h9) rfl hin rfl (by decide +kernel) rfl rfl (Nat.le_of_ble_eq_true rfl) dX4_init_51 (fun H locs hP hD hS => ?_)
  have hP : va_P D vwCl [(ho, .inr (4, [.ref hp, .int (iz (0)), .int (iz (0)), .int (iz (0)), .int (iz (0)), .int (iz (0)), .int (iz (0)), .int (iz (0)), .int (iz (0)), .int (iz (0))]))] H := hP
  have hD : va_D A [(ho, .inr (4, [.ref hp, .int (iz (0)), .int (iz (0)), .int (iz (0)), .int (iz (0)), .int (iz (0)), .int (iz (0)), .int (iz (0)), .int (iz (0)), .int (iz (0))]))] := hD
  refine W.widen (k := 0) (n := 0) (Nat.le_of_ble_eq_true rfl) (Nat.le_of_ble_eq_true rfl) ?_
  exact W.vret hx hb hr (fun t ht hW => ⟨⟨(), rfl, trivial, by show va_P _ _ _ t.heap ∧ va_D _ _; rw [ht]; exact ⟨hP, hD⟩⟩, hS.F ht⟩) hS.2.2 dX4_init_54
