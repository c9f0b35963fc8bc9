set_option maxHeartbeats 4000000 in
set_option maxRecDepth 100000 in
theorem c_X0_init (l : Launch) (D : va_G) (T : Nat → ClassId) (sz : Nat) (hc : Nat) (h0 : Nat) : Met l yX0_init wsX0_init ({ frames := 1, cells := 8, slots := 192, locals := 12 }) (kPc D T [.ref hc, .ref h0] (kW D sz [(hc, .inr (0, [.null, .null, .null, .null, .null, .null, .null, .null, .null]))])) (va_Qv (fun (u : Nat × Nat × Nat × Nat × Nat × Nat × Nat × Nat) => True) (fun (u : Nat × Nat × Nat × Nat × Nat × Nat × Nat × Nat) (t : State) => va_P D vwCl [(hc, .inr (0, [.ref h0, .ref u.1, .ref u.2.1, .ref u.2.2.1, .ref u.2.2.2.1, .ref u.2.2.2.2.1, .ref u.2.2.2.2.2.1, .ref u.2.2.2.2.2.2.1, .ref u.2.2.2.2.2.2.2])), (u.1, .inl (T 0, 24, .inl (zA (fun _ => 0)))), (u.2.1, .inl (T 0, 24, .inl (zA (fun _ => 0)))), (u.2.2.1, .inl (T 0, 24, .inl (zA (fun _ => 0)))), (u.2.2.2.1, .inl (T 0, 24, .inl (zA (fun _ => 0)))), (u.2.2.2.2.1, .inl (T 0, 24, .inl (zA (fun _ => 0)))), (u.2.2.2.2.2.1, .inl (T 0, 24, .inl (zA (fun _ => 0)))), (u.2.2.2.2.2.2.1, .inl (T 0, 24, .inl (zA (fun _ => 0)))), (u.2.2.2.2.2.2.2, .inl (T 0, 24, .inl (zA (fun _ => 0))))] t.heap ∧ va_D (va_A [(hc, .inr (0, [.null, .null, .null, .null, .null, .null, .null, .null, .null]))] sz) [(hc, .inr (0, [.ref h0, .ref u.1, .ref u.2.1, .ref u.2.2.1, .ref u.2.2.2.1, .ref u.2.2.2.2.1, .ref u.2.2.2.2.2.1, .ref u.2.2.2.2.2.2.1, .ref u.2.2.2.2.2.2.2])), (u.1, .inl (T 0, 24, .inl (zA (fun _ => 0)))), (u.2.1, .inl (T 0, 24, .inl (zA (fun _ => 0)))), (u.2.2.1, .inl (T 0, 24, .inl (zA (fun _ => 0)))), (u.2.2.2.1, .inl (T 0, 24, .inl (zA (fun _ => 0)))), (u.2.2.2.2.1, .inl (T 0, 24, .inl (zA (fun _ => 0)))), (u.2.2.2.2.2.1, .inl (T 0, 24, .inl (zA (fun _ => 0)))), (u.2.2.2.2.2.2.1, .inl (T 0, 24, .inl (zA (fun _ => 0)))), (u.2.2.2.2.2.2.2, .inl (T 0, 24, .inl (zA (fun _ => 0))))]) (va_A [(hc, .inr (0, [.null, .null, .null, .null, .null, .null, .null, .null, .null]))] sz)) 8 192 (va_A [(hc, .inr (0, [.null, .null, .null, .null, .null, .null, .null, .null, .null]))] sz) := by
  refine Met.ofW (cc := cX0_init) (maxL := 2) (ret := none) (by decide) rfl ?_
  intro p e s m args below meth c s₁ B hml hv
  obtain ⟨rfl, hK, hsz, hP, hD0⟩ := hv
  have hx := B.exec
  have hb := B.bytes
  have hr := B.returns
  have hts := atoms_spec (ws := wsX0_init) B.pre
  have hown : s.vm.findClass RX0 = some m.cls := findClass_of_methodNamed B.named
  have hlocks := B.notSynchronized
  have w0 := hts (.methodLink RX0 3 objectInit) (List.mem_of_getElem? (i := 1) rfl)
  have w1 := hts (.instanceMethod objectInit) (List.mem_of_getElem? (i := 2) rfl)
  have w2 := hts (.code objectInit ⟨#[0xb1]⟩ 1 none) (List.mem_of_getElem? (i := 3) rfl)
  have w3 := hts (.arrayClass .int) (List.mem_of_getElem? (i := 4) rfl)
  have w4 := hts (.fieldLink RX0 9 "LakePlant$Course" "letDown" "[I") (List.mem_of_getElem? (i := 5) rfl)
  have w5 : ∀ w ∈ wsX00, w ∈ wsX0_init := by decide +kernel
  have w6 := hts (.fieldLink RX0 15 "LakePlant$Course" "pumped" "[I") (List.mem_of_getElem? (i := 6) rfl)
  have w7 := hts (.fieldLink RX0 18 "LakePlant$Course" "lost" "[I") (List.mem_of_getElem? (i := 7) rfl)
  have w8 := hts (.fieldLink RX0 21 "LakePlant$Course" "spilled" "[I") (List.mem_of_getElem? (i := 8) rfl)
  have w9 := hts (.fieldLink RX0 24 "LakePlant$Course" "level" "[I") (List.mem_of_getElem? (i := 9) rfl)
  have w10 := hts (.fieldLink RX0 27 "LakePlant$Course" "money" "[I") (List.mem_of_getElem? (i := 10) rfl)
  have w11 := hts (.fieldLink RX0 30 "LakePlant$Course" "trouble" "[I") (List.mem_of_getElem? (i := 11) rfl)
  have w12 := hts (.fieldLink RX0 33 "LakePlant$Course" "cause" "[I") (List.mem_of_getElem? (i := 12) rfl)
  have w13 := hts (.fieldLink RX0 36 "LakePlant$Course" "lake" "LLakePlant$Lake;") (List.mem_of_getElem? (i := 13) rfl)
  subst hsz
  have hD := hD0.self (sz := s.heap.size)
  have hin : meth.name = "<init>" := (name_of_methodNamed B.named B.method).1
  generalize hAe : va_A [(hc, .inr (0, [.null, .null, .null, .null, .null, .null, .null, .null, .null]))] s.heap.size = A at hD ⊢
  have hA : ∀ q : Nat, s.heap.size ≤ q → A q := fun q h => by rw [← hAe]; exact Or.inr h
  have hS : va_S A s.heap s.heap [] := va_S.rf
  have hP : va_P D vwCl [(hc, .inr (0, [.null, .null, .null, .null, .null, .null, .null, .null, .null]))] s.heap := hP
  have hl := lv_entry ([.ref hc, .ref h0]) (n := 2) (Nat.le_of_ble_eq_true rfl)
  rw [lg_entry_eq]
  generalize (lg_sl ([.ref hc, .ref h0]) ++ List.replicate (2 - (lg_sl ([.ref hc, .ref h0])).length) Slot.unset).toArray = ls at hl ⊢
  have hl : lv_has ls 2 [(0, .ref hc), (1, .ref h0)] := hl
  refine lv_aload_n hx hb dX0_init_0 rfl (lv_at hl 0 rfl) ?_
  refine W.objInit hx hb hown w0 w1 w2 rfl (by rw [hml]; exact hl.1) rfl dX0_init_1 (Nat.le_of_ble_eq_true rfl) (Nat.le_of_ble_eq_true rfl) ?_
  refine W.eq (g2 := F0 m 4 ls []) rfl ?_
  refine lv_aload_n hx hb dX0_init_4 rfl (lv_at hl 0 rfl) ?_
  refine lv_bipush (v := iz (24)) hx hb dX0_init_5 (by decide) ?_
  refine kz_newa (atype := .int) hx hb hK hP hD hS hA 0 rfl w3 rfl (N := 24) rfl (by omega) (by show 24 * 4 ≤ 536870912; omega) (Nat.le_of_ble_eq_true rfl) (Nat.le_of_ble_eq_true rfl) dX0_init_7 (fun q1 H hP hD hS => ?_)
  have hP : va_P D vwCl [(hc, .inr (0, [.null, .null, .null, .null, .null, .null, .null, .null, .null])), (q1, .inl (T 0, 24, .inl (zA (fun _ => 0))))] H := hP
  have hD : va_D A [(hc, .inr (0, [.null, .null, .null, .null, .null, .null, .null, .null, .null])), (q1, .inl (T 0, 24, .inl (zA (fun _ => 0))))] := hD
  refine va_putF (D := D) (ci := 0) (v := .ref q1) (ty := .array .int) (C := RX0) (T := TX0) (N := 9) hx hb hts w5 tyX0 tyX0_ok nmX0 hown hK.1 hP hD hS 0 rfl rfl 1 (by decide) w4 (fun _ h9 => h9) rfl hin rfl (by decide +kernel) rfl rfl (Nat.le_of_ble_eq_true rfl) dX0_init_9 (fun H locs hP hD hS => ?_)
  have hP : va_P D vwCl [(hc, .inr (0, [.null, .ref q1, .null, .null, .null, .null, .null, .null, .null])), (q1, .inl (T 0, 24, .inl (zA (fun _ => 0))))] H := hP
  have hD : va_D A [(hc, .inr (0, [.null, .ref q1, .null, .null, .null, .null, .null, .null, .null])), (q1, .inl (T 0, 24, .inl (zA (fun _ => 0))))] := hD
  refine lv_aload_n hx hb dX0_init_12 rfl (lv_at hl 0 rfl) ?_
  refine lv_bipush (v := iz (24)) hx hb dX0_init_13 (by decide) ?_
  refine kz_newa (atype := .int) hx hb hK hP hD hS hA 0 rfl w3 rfl (N := 24) rfl (by omega) (by show 24 * 4 ≤ 536870912; omega) (Nat.le_of_ble_eq_true rfl) (Nat.le_of_ble_eq_true rfl) dX0_init_15 (fun q2 H hP hD hS => ?_)
  have hP : va_P D vwCl [(hc, .inr (0, [.null, .ref q1, .null, .null, .null, .null, .null, .null, .null])), (q1, .inl (T 0, 24, .inl (zA (fun _ => 0)))), (q2, .inl (T 0, 24, .inl (zA (fun _ => 0))))] H := hP
  have hD : va_D A [(hc, .inr (0, [.null, .ref q1, .null, .null, .null, .null, .null, .null, .null])), (q1, .inl (T 0, 24, .inl (zA (fun _ => 0)))), (q2, .inl (T 0, 24, .inl (zA (fun _ => 0))))] := hD
  refine va_putF (D := D) (ci := 0) (v := .ref q2) (ty := .array .int) (C := RX0) (T := TX0) (N := 9) hx hb hts w5 tyX0 tyX0_ok nmX0 hown hK.1 hP hD hS 0 rfl rfl 2 (by decide) w6 (fun _ h9 => h9) rfl hin rfl (by decide +kernel) rfl rfl (Nat.le_of_ble_eq_true rfl) dX0_init_17 (fun H locs hP hD hS => ?_)
  have hP : va_P D vwCl [(hc, .inr (0, [.null, .ref q1, .ref q2, .null, .null, .null, .null, .null, .null])), (q1, .inl (T 0, 24, .inl (zA (fun _ => 0)))), (q2, .inl (T 0, 24, .inl (zA (fun _ => 0))))] H := hP
  have hD : va_D A [(hc, .inr (0, [.null, .ref q1, .ref q2, .null, .null, .null, .null, .null, .null])), (q1, .inl (T 0, 24, .inl (zA (fun _ => 0)))), (q2, .inl (T 0, 24, .inl (zA (fun _ => 0))))] := hD
  refine lv_aload_n hx hb dX0_init_20 rfl (lv_at hl 0 rfl) ?_
  refine lv_bipush (v := iz (24)) hx hb dX0_init_21 (by decide) ?_
  refine kz_newa (atype := .int) hx hb hK hP hD hS hA 0 rfl w3 rfl (N := 24) rfl (by omega) (by show 24 * 4 ≤ 536870912; omega) (Nat.le_of_ble_eq_true rfl) (Nat.le_of_ble_eq_true rfl) dX0_init_23 (fun q3 H hP hD hS => ?_)
  have hP : va_P D vwCl [(hc, .inr (0, [.null, .ref q1, .ref q2, .null, .null, .null, .null, .null, .null])), (q1, .inl (T 0, 24, .inl (zA (fun _ => 0)))), (q2, .inl (T 0, 24, .inl (zA (fun _ => 0)))), (q3, .inl (T 0, 24, .inl (zA (fun _ => 0))))] H := hP
  have hD : va_D A [(hc, .inr (0, [.null, .ref q1, .ref q2, .null, .null, .null, .null, .null, .null])), (q1, .inl (T 0, 24, .inl (zA (fun _ => 0)))), (q2, .inl (T 0, 24, .inl (zA (fun _ => 0)))), (q3, .inl (T 0, 24, .inl (zA (fun _ => 0))))] := hD
  refine va_putF (D := D) (ci := 0) (v := .ref q3) (ty := .array .int) (C := RX0) (T := TX0) (N := 9) hx hb hts w5 tyX0 tyX0_ok nmX0 hown hK.1 hP hD hS 0 rfl rfl 3 (by decide) w7 (fun _ h9 => h9) rfl hin rfl (by decide +kernel) rfl rfl (Nat.le_of_ble_eq_true rfl) dX0_init_25 (fun H locs hP hD hS => ?_)
  have hP : va_P D vwCl [(hc, .inr (0, [.null, .ref q1, .ref q2, .ref q3, .null, .null, .null, .null, .null])), (q1, .inl (T 0, 24, .inl (zA (fun _ => 0)))), (q2, .inl (T 0, 24, .inl (zA (fun _ => 0)))), (q3, .inl (T 0, 24, .inl (zA (fun _ => 0))))] H := hP
  have hD : va_D A [(hc, .inr (0, [.null, .ref q1, .ref q2, .ref q3, .null, .null, .null, .null, .null])), (q1, .inl (T 0, 24, .inl (zA (fun _ => 0)))), (q2, .inl (T 0, 24, .inl (zA (fun _ => 0)))), (q3, .inl (T 0, 24, .inl (zA (fun _ => 0))))] := hD
  refine lv_aload_n hx hb dX0_init_28 rfl (lv_at hl 0 rfl) ?_
  refine lv_bipush (v := iz (24)) hx hb dX0_init_29 (by decide) ?_
  refine kz_newa (atype := .int) hx hb hK hP hD hS hA 0 rfl w3 rfl (N := 24) rfl (by omega) (by show 24 * 4 ≤ 536870912; omega) (Nat.le_of_ble_eq_true rfl) (Nat.le_of_ble_eq_true rfl) dX0_init_31 (fun q4 H hP hD hS => ?_)
  have hP : va_P D vwCl [(hc, .inr (0, [.null, .ref q1, .ref q2, .ref q3, .null, .null, .null, .null, .null])), (q1, .inl (T 0, 24, .inl (zA (fun _ => 0)))), (q2, .inl (T 0, 24, .inl (zA (fun _ => 0)))), (q3, .inl (T 0, 24, .inl (zA (fun _ => 0)))), (q4, .inl (T 0, 24, .inl (zA (fun _ => 0))))] H := hP
  have hD : va_D A [(hc, .inr (0, [.null, .ref q1, .ref q2, .ref q3, .null, .null, .null, .null, .null])), (q1, .inl (T 0, 24, .inl (zA (fun _ => 0)))), (q2, .inl (T 0, 24, .inl (zA (fun _ => 0)))), (q3, .inl (T 0, 24, .inl (zA (fun _ => 0)))), (q4, .inl (T 0, 24, .inl (zA (fun _ => 0))))] := hD
  refine va_putF (D := D) (ci := 0) (v := .ref q4) (ty := .array .int) (C := RX0) (T := TX0) (N := 9) hx hb hts w5 tyX0 tyX0_ok nmX0 hown hK.1 hP hD hS 0 rfl rfl 4 (by decide) w8 (fun _ h9 => h9) rfl hin rfl (by decide +kernel) rfl rfl (Nat.le_of_ble_eq_true rfl) dX0_init_33 (fun H locs hP hD hS => ?_)
  have hP : va_P D vwCl [(hc, .inr (0, [.null, .ref q1, .ref q2, .ref q3, .ref q4, .null, .null, .null, .null])), (q1, .inl (T 0, 24, .inl (zA (fun _ => 0)))), (q2, .inl (T 0, 24, .inl (zA (fun _ => 0)))), (q3, .inl (T 0, 24, .inl (zA (fun _ => 0)))), (q4, .inl (T 0, 24, .inl (zA (fun _ => 0))))] H := hP
  have hD : va_D A [(hc, .inr (0, [.null, .ref q1, .ref q2, .ref q3, .ref q4, .null, .null, .null, .null])), (q1, .inl (T 0, 24, .inl (zA (fun _ => 0)))), (q2, .inl (T 0, 24, .inl (zA (fun _ => 0)))), (q3, .inl (T 0, 24, .inl (zA (fun _ => 0)))), (q4, .inl (T 0, 24, .inl (zA (fun _ => 0))))] := hD
  refine lv_aload_n hx hb dX0_init_36 rfl (lv_at hl 0 rfl) ?_
  refine lv_bipush (v := iz (24)) hx hb dX0_init_37 (by decide) ?_
  refine kz_newa (atype := .int) hx hb hK hP hD hS hA 0 rfl w3 rfl (N := 24) rfl (by omega) (by show 24 * 4 ≤ 536870912; omega) (Nat.le_of_ble_eq_true rfl) (Nat.le_of_ble_eq_true rfl) dX0_init_39 (fun q5 H hP hD hS => ?_)
  have hP : va_P D vwCl [(hc, .inr (0, [.null, .ref q1, .ref q2, .ref q3, .ref q4, .null, .null, .null, .null])), (q1, .inl (T 0, 24, .inl (zA (fun _ => 0)))), (q2, .inl (T 0, 24, .inl (zA (fun _ => 0)))), (q3, .inl (T 0, 24, .inl (zA (fun _ => 0)))), (q4, .inl (T 0, 24, .inl (zA (fun _ => 0)))), (q5, .inl (T 0, 24, .inl (zA (fun _ => 0))))] H := hP
  have hD : va_D A [(hc, .inr (0, [.null, .ref q1, .ref q2, .ref q3, .ref q4, .null, .null, .null, .null])), (q1, .inl (T 0, 24, .inl (zA (fun _ => 0)))), (q2, .inl (T 0, 24, .inl (zA (fun _ => 0)))), (q3, .inl (T 0, 24, .inl (zA (fun _ => 0)))), (q4, .inl (T 0, 24, .inl (zA (fun _ => 0)))), (q5, .inl (T 0, 24, .inl (zA (fun _ => 0))))] := hD
  refine va_putF (D := D) (ci := 0) (v := .ref q5) (ty := .array .int) (C := RX0) (T := TX0) (N := 9) hx hb hts w5 tyX0 tyX0_ok nmX0 hown hK.1 hP hD hS 0 rfl rfl 5 (by decide) w9 (fun _ h9 => h9) rfl hin rfl (by decide +kernel) rfl rfl (Nat.le_of_ble_eq_true rfl) dX0_init_41 (fun H locs hP hD hS => ?_)
  have hP : va_P D vwCl [(hc, .inr (0, [.null, .ref q1, .ref q2, .ref q3, .ref q4, .ref q5, .null, .null, .null])), (q1, .inl (T 0, 24, .inl (zA (fun _ => 0)))), (q2, .inl (T 0, 24, .inl (zA (fun _ => 0)))), (q3, .inl (T 0, 24, .inl (zA (fun _ => 0)))), (q4, .inl (T 0, 24, .inl (zA (fun _ => 0)))), (q5, .inl (T 0, 24, .inl (zA (fun _ => 0))))] H := hP
  have hD : va_D A [(hc, .inr (0, [.null, .ref q1, .ref q2, .ref q3, .ref q4, .ref q5, .null, .null, .null])), (q1, .inl (T 0, 24, .inl (zA (fun _ => 0)))), (q2, .inl (T 0, 24, .inl (zA (fun _ => 0)))), (q3, .inl (T 0, 24, .inl (zA (fun _ => 0)))), (q4, .inl (T 0, 24, .inl (zA (fun _ => 0)))), (q5, .inl (T 0, 24, .inl (zA (fun _ => 0))))] := hD
  refine lv_aload_n hx hb dX0_init_44 rfl (lv_at hl 0 rfl) ?_
  refine lv_bipush (v := iz (24)) hx hb dX0_init_45 (by decide) ?_
  refine kz_newa (atype := .int) hx hb hK hP hD hS hA 0 rfl w3 rfl (N := 24) rfl (by omega) (by show 24 * 4 ≤ 536870912; omega) (Nat.le_of_ble_eq_true rfl) (Nat.le_of_ble_eq_true rfl) dX0_init_47 (fun q6 H hP hD hS => ?_)
  have hP : va_P D vwCl [(hc, .inr (0, [.null, .ref q1, .ref q2, .ref q3, .ref q4, .ref q5, .null, .null, .null])), (q1, .inl (T 0, 24, .inl (zA (fun _ => 0)))), (q2, .inl (T 0, 24, .inl (zA (fun _ => 0)))), (q3, .inl (T 0, 24, .inl (zA (fun _ => 0)))), (q4, .inl (T 0, 24, .inl (zA (fun _ => 0)))), (q5, .inl (T 0, 24, .inl (zA (fun _ => 0)))), (q6, .inl (T 0, 24, .inl (zA (fun _ => 0))))] H := hP
  have hD : va_D A [(hc, .inr (0, [.null, .ref q1, .ref q2, .ref q3, .ref q4, .ref q5, .null, .null, .null])), (q1, .inl (T 0, 24, .inl (zA (fun _ => 0)))), (q2, .inl (T 0, 24, .inl (zA (fun _ => 0)))), (q3, .inl (T 0, 24, .inl (zA (fun _ => 0)))), (q4, .inl (T 0, 24, .inl (zA (fun _ => 0)))), (q5, .inl (T 0, 24, .inl (zA (fun _ => 0)))), (q6, .inl (T 0, 24, .inl (zA (fun _ => 0))))] := hD
  refine va_putF (D := D) (ci := 0) (v := .ref q6) (ty := .array .int) (C := RX0) (T := TX0) (N := 9) hx hb hts w5 tyX0 tyX0_ok nmX0 hown hK.1 hP hD hS 0 rfl rfl 6 (by decide) w10 (fun _ h9 => h9) rfl hin rfl (by decide +kernel) rfl rfl (Nat.le_of_ble_eq_true rfl) dX0_init_49 (fun H locs hP hD hS => ?_)
  have hP : va_P D vwCl [(hc, .inr (0, [.null, .ref q1, .ref q2, .ref q3, .ref q4, .ref q5, .ref q6, .null, .null])), (q1, .inl (T 0, 24, .inl (zA (fun _ => 0)))), (q2, .inl (T 0, 24, .inl (zA (fun _ => 0)))), (q3, .inl (T 0, 24, .inl (zA (fun _ => 0)))), (q4, .inl (T 0, 24, .inl (zA (fun _ => 0)))), (q5, .inl (T 0, 24, .inl (zA (fun _ => 0)))), (q6, .inl (T 0, 24, .inl (zA (fun _ => 0))))] H := hP
  have hD : va_D A [(hc, .inr (0, [.null, .ref q1, .ref q2, .ref q3, .ref q4, .ref q5, .ref q6, .null, .null])), (q1, .inl (T 0, 24, .inl (zA (fun _ => 0)))), (q2, .inl (T 0, 24, .inl (zA (fun _ => 0)))), (q3, .inl (T 0, 24, .inl (zA (fun _ => 0)))), (q4, .inl (T 0, 24, .inl (zA (fun _ => 0)))), (q5, .inl (T 0, 24, .inl (zA (fun _ => 0)))), (q6, .inl (T 0, 24, .inl (zA (fun _ => 0))))] := hD
  refine lv_aload_n hx hb dX0_init_52 rfl (lv_at hl 0 rfl) ?_
  refine lv_bipush (v := iz (24)) hx hb dX0_init_53 (by decide) ?_
  refine kz_newa (atype := .int) hx hb hK hP hD hS hA 0 rfl w3 rfl (N := 24) rfl (by omega) (by show 24 * 4 ≤ 536870912; omega) (Nat.le_of_ble_eq_true rfl) (Nat.le_of_ble_eq_true rfl) dX0_init_55 (fun q7 H hP hD hS => ?_)
  have hP : va_P D vwCl [(hc, .inr (0, [.null, .ref q1, .ref q2, .ref q3, .ref q4, .ref q5, .ref q6, .null, .null])), (q1, .inl (T 0, 24, .inl (zA (fun _ => 0)))), (q2, .inl (T 0, 24, .inl (zA (fun _ => 0)))), (q3, .inl (T 0, 24, .inl (zA (fun _ => 0)))), (q4, .inl (T 0, 24, .inl (zA (fun _ => 0)))), (q5, .inl (T 0, 24, .inl (zA (fun _ => 0)))), (q6, .inl (T 0, 24, .inl (zA (fun _ => 0)))), (q7, .inl (T 0, 24, .inl (zA (fun _ => 0))))] H := hP
  have hD : va_D A [(hc, .inr (0, [.null, .ref q1, .ref q2, .ref q3, .ref q4, .ref q5, .ref q6, .null, .null])), (q1, .inl (T 0, 24, .inl (zA (fun _ => 0)))), (q2, .inl (T 0, 24, .inl (zA (fun _ => 0)))), (q3, .inl (T 0, 24, .inl (zA (fun _ => 0)))), (q4, .inl (T 0, 24, .inl (zA (fun _ => 0)))), (q5, .inl (T 0, 24, .inl (zA (fun _ => 0)))), (q6, .inl (T 0, 24, .inl (zA (fun _ => 0)))), (q7, .inl (T 0, 24, .inl (zA (fun _ => 0))))] := hD
  refine va_putF (D := D) (ci := 0) (v := .ref q7) (ty := .array .int) (C := RX0) (T := TX0) (N := 9) hx hb hts w5 tyX0 tyX0_ok nmX0 hown hK.1 hP hD hS 0 rfl rfl 7 (by decide) w11 (fun _ h9 => h9) rfl hin rfl (by decide +kernel) rfl rfl (Nat.le_of_ble_eq_true rfl) dX0_init_57 (fun H locs hP hD hS => ?_)
  have hP : va_P D vwCl [(hc, .inr (0, [.null, .ref q1, .ref q2, .ref q3, .ref q4, .ref q5, .ref q6, .ref q7, .null])), (q1, .inl (T 0, 24, .inl (zA (fun _ => 0)))), (q2, .inl (T 0, 24, .inl (zA (fun _ => 0)))), (q3, .inl (T 0, 24, .inl (zA (fun _ => 0)))), (q4, .inl (T 0, 24, .inl (zA (fun _ => 0)))), (q5, .inl (T 0, 24, .inl (zA (fun _ => 0)))), (q6, .inl (T 0, 24, .inl (zA (fun _ => 0)))), (q7, .inl (T 0, 24, .inl (zA (fun _ => 0))))] H := hP
  have hD : va_D A [(hc, .inr (0, [.null, .ref q1, .ref q2, .ref q3, .ref q4, .ref q5, .ref q6, .ref q7, .null])), (q1, .inl (T 0, 24, .inl (zA (fun _ => 0)))), (q2, .inl (T 0, 24, .inl (zA (fun _ => 0)))), (q3, .inl (T 0, 24, .inl (zA (fun _ => 0)))), (q4, .inl (T 0, 24, .inl (zA (fun _ => 0)))), (q5, .inl (T 0, 24, .inl (zA (fun _ => 0)))), (q6, .inl (T 0, 24, .inl (zA (fun _ => 0)))), (q7, .inl (T 0, 24, .inl (zA (fun _ => 0))))] := hD
  refine lv_aload_n hx hb dX0_init_60 rfl (lv_at hl 0 rfl) ?_
  refine lv_bipush (v := iz (24)) hx hb dX0_init_61 (by decide) ?_
  refine kz_newa (atype := .int) hx hb hK hP hD hS hA 0 rfl w3 rfl (N := 24) rfl (by omega) (by show 24 * 4 ≤ 536870912; omega) (Nat.le_of_ble_eq_true rfl) (Nat.le_of_ble_eq_true rfl) dX0_init_63 (fun q8 H hP hD hS => ?_)
  have hP : va_P D vwCl [(hc, .inr (0, [.null, .ref q1, .ref q2, .ref q3, .ref q4, .ref q5, .ref q6, .ref q7, .null])), (q1, .inl (T 0, 24, .inl (zA (fun _ => 0)))), (q2, .inl (T 0, 24, .inl (zA (fun _ => 0)))), (q3, .inl (T 0, 24, .inl (zA (fun _ => 0)))), (q4, .inl (T 0, 24, .inl (zA (fun _ => 0)))), (q5, .inl (T 0, 24, .inl (zA (fun _ => 0)))), (q6, .inl (T 0, 24, .inl (zA (fun _ => 0)))), (q7, .inl (T 0, 24, .inl (zA (fun _ => 0)))), (q8, .inl (T 0, 24, .inl (zA (fun _ => 0))))] H := hP
  have hD : va_D A [(hc, .inr (0, [.null, .ref q1, .ref q2, .ref q3, .ref q4, .ref q5, .ref q6, .ref q7, .null])), (q1, .inl (T 0, 24, .inl (zA (fun _ => 0)))), (q2, .inl (T 0, 24, .inl (zA (fun _ => 0)))), (q3, .inl (T 0, 24, .inl (zA (fun _ => 0)))), (q4, .inl (T 0, 24, .inl (zA (fun _ => 0)))), (q5, .inl (T 0, 24, .inl (zA (fun _ => 0)))), (q6, .inl (T 0, 24, .inl (zA (fun _ => 0)))), (q7, .inl (T 0, 24, .inl (zA (fun _ => 0)))), (q8, .inl (T 0, 24, .inl (zA (fun _ => 0))))] := hD
  refine va_putF (D := D) (ci := 0) (v := .ref q8) (ty := .array .int) (C := RX0) (T := TX0) (N := 9) hx hb hts w5 tyX0 tyX0_ok nmX0 hown hK.1 hP hD hS 0 rfl rfl 8 (by decide) w12 (fun _ h9 => h9) rfl hin rfl (by decide +kernel) rfl rfl (Nat.le_of_ble_eq_true rfl) dX0_init_65 (fun H locs hP hD hS => ?_)
  have hP : va_P D vwCl [(hc, .inr (0, [.null, .ref q1, .ref q2, .ref q3, .ref q4, .ref q5, .ref q6, .ref q7, .ref q8])), (q1, .inl (T 0, 24, .inl (zA (fun _ => 0)))), (q2, .inl (T 0, 24, .inl (zA (fun _ => 0)))), (q3, .inl (T 0, 24, .inl (zA (fun _ => 0)))), (q4, .inl (T 0, 24, .inl (zA (fun _ => 0)))), (q5, .inl (T 0, 24, .inl (zA (fun _ => 0)))), (q6, .inl (T 0, 24, .inl (zA (fun _ => 0)))), (q7, .inl (T 0, 24, .inl (zA (fun _ => 0)))), (q8, .inl (T 0, 24, .inl (zA (fun _ => 0))))] H := hP
  have hD : va_D A [(hc, .inr (0, [.null, .ref q1, .ref q2, .ref q3, .ref q4, .ref q5, .ref q6, .ref q7, .ref q8])), (q1, .inl (T 0, 24, .inl (zA (fun _ => 0)))), (q2, .inl (T 0, 24, .inl (zA (fun _ => 0)))), (q3, .inl (T 0, 24, .inl (zA (fun _ => 0)))), (q4, .inl (T 0, 24, .inl (zA (fun _ => 0)))), (q5, .inl (T 0, 24, .inl (zA (fun _ => 0)))), (q6, .inl (T 0, 24, .inl (zA (fun _ => 0)))), (q7, .inl (T 0, 24, .inl (zA (fun _ => 0)))), (q8, .inl (T 0, 24, .inl (zA (fun _ => 0))))] := hD
  refine lv_aload_n hx hb dX0_init_68 rfl (lv_at hl 0 rfl) ?_
  refine lv_aload_n hx hb dX0_init_69 rfl (lv_at hl 1 rfl) ?_
  refine va_putF (D := D) (ci := 0) (v := .ref h0) (ty := .object "LakePlant$Lake") (C := RX0) (T := TX0) (N := 9) hx hb hts w5 tyX0 tyX0_ok nmX0 hown hK.1 hP hD hS 0 rfl rfl 0 (by decide) w13 (fun _ h9 => h9) rfl hin rfl (by decide +kernel) rfl rfl (Nat.le_of_ble_eq_true rfl) dX0_init_70 (fun H locs hP hD hS => ?_)
  have hP : va_P D vwCl [(hc, .inr (0, [.ref h0, .ref q1, .ref q2, .ref q3, .ref q4, .ref q5, .ref q6, .ref q7, .ref q8])), (q1, .inl (T 0, 24, .inl (zA (fun _ => 0)))), (q2, .inl (T 0, 24, .inl (zA (fun _ => 0)))), (q3, .inl (T 0, 24, .inl (zA (fun _ => 0)))), (q4, .inl (T 0, 24, .inl (zA (fun _ => 0)))), (q5, .inl (T 0, 24, .inl (zA (fun _ => 0)))), (q6, .inl (T 0, 24, .inl (zA (fun _ => 0)))), (q7, .inl (T 0, 24, .inl (zA (fun _ => 0)))), (q8, .inl (T 0, 24, .inl (zA (fun _ => 0))))] H := hP
  have hD : va_D A [(hc, .inr (0, [.ref h0, .ref q1, .ref q2, .ref q3, .ref q4, .ref q5, .ref q6, .ref q7, .ref q8])), (q1, .inl (T 0, 24, .inl (zA (fun _ => 0)))), (q2, .inl (T 0, 24, .inl (zA (fun _ => 0)))), (q3, .inl (T 0, 24, .inl (zA (fun _ => 0)))), (q4, .inl (T 0, 24, .inl (zA (fun _ => 0)))), (q5, .inl (T 0, 24, .inl (zA (fun _ => 0)))), (q6, .inl (T 0, 24, .inl (zA (fun _ => 0)))), (q7, .inl (T 0, 24, .inl (zA (fun _ => 0)))), (q8, .inl (T 0, 24, .inl (zA (fun _ => 0))))] := hD
  refine W.widen (k := 8) (n := 192) (Nat.le_of_ble_eq_true rfl) (Nat.le_of_ble_eq_true rfl) ?_
  exact W.vret hx hb hr (fun t ht hW => ⟨⟨(q1, q2, q3, q4, q5, q6, q7, q8), rfl, trivial, by show va_P _ _ _ t.heap ∧ va_D _ _; rw [ht]; exact ⟨hP, hD⟩⟩, hS.F ht⟩) hS.2.2 dX0_init_73
