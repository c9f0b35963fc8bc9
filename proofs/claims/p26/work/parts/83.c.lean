set_option maxHeartbeats 4000000 in
set_option maxRecDepth 100000 in
theorem c_X1_init (l : Launch) (D : va_G) (T : Nat → ClassId) (sz : Nat) (hh : Nat) : Met l yX1_init wsX1_init ({ frames := 1, cells := 8, slots := 812, locals := 12 }) (kPcO D T [.ref hh] (kW D sz [(hh, .inr (1, [.null, .int (iz (0)), .int (iz (0))]))])) (va_Qv (fun (u : Nat × (Nat → Nat)) => True) (fun (u : Nat × (Nat → Nat)) (t : State) => va_P D vwCl ([(hh, .inr (1, [.ref u.1, .int (iz (0)), .int (iz (0))])), (u.1, .inl (T 1, 7, .inr (.inr (.inr (.inr (fun i => some (u.2 i)))))))] ++ kRows T u.2 7 115 (fun _ _ => 0)) t.heap ∧ va_D (va_A [(hh, .inr (1, [.null, .int (iz (0)), .int (iz (0))]))] sz) ([(hh, .inr (1, [.ref u.1, .int (iz (0)), .int (iz (0))])), (u.1, .inl (T 1, 7, .inr (.inr (.inr (.inr (fun i => some (u.2 i)))))))] ++ kRows T u.2 7 115 (fun _ _ => 0))) (va_A [(hh, .inr (1, [.null, .int (iz (0)), .int (iz (0))]))] sz)) 8 812 (va_A [(hh, .inr (1, [.null, .int (iz (0)), .int (iz (0))]))] sz) := by
  refine Met.ofW (cc := cX1_init) (maxL := 1) (ret := none) (by decide) rfl ?_
  intro p e s m args below meth c s₁ B hml hv
  obtain ⟨rfl, hK, hO, hsz, hP, hD0⟩ := hv
  have hx := B.exec
  have hb := B.bytes
  have hr := B.returns
  have hts := atoms_spec (ws := wsX1_init) B.pre
  have hown : s.vm.findClass RX1 = some m.cls := findClass_of_methodNamed B.named
  have hlocks := B.notSynchronized
  have w0 := hts (.methodLink RX1 3 objectInit) (List.mem_of_getElem? (i := 1) rfl)
  have w1 := hts (.instanceMethod objectInit) (List.mem_of_getElem? (i := 2) rfl)
  have w2 := hts (.code objectInit ⟨#[0xb1]⟩ 1 none) (List.mem_of_getElem? (i := 3) rfl)
  have w3 := hts (.classLink RX1 13 "[[I") (List.mem_of_getElem? (i := 4) rfl)
  have w4 := hts (.arrayClass .int) (List.mem_of_getElem? (i := 5) rfl)
  have w5 := hts (.fieldLink RX1 15 "LakePlant$History" "states" "[[I") (List.mem_of_getElem? (i := 6) rfl)
  have w6 : ∀ w ∈ wsX10, w ∈ wsX1_init := by decide +kernel
  have w7 := hts (.fieldLink RX1 18 "LakePlant$History" "aside" "I") (List.mem_of_getElem? (i := 7) rfl)
  have w8 := hts (.fieldLink RX1 22 "LakePlant$History" "length" "I") (List.mem_of_getElem? (i := 8) rfl)
  subst hsz
  have hD := hD0.self (sz := s.heap.size)
  have hin : meth.name = "<init>" := (name_of_methodNamed B.named B.method).1
  generalize hAe : va_A [(hh, .inr (1, [.null, .int (iz (0)), .int (iz (0))]))] s.heap.size = A at hD ⊢
  have hA : ∀ q : Nat, s.heap.size ≤ q → A q := fun q h => by rw [← hAe]; exact Or.inr h
  have hS : va_S A s.heap s.heap [] := va_S.rf
  have hP : va_P D vwCl [(hh, .inr (1, [.null, .int (iz (0)), .int (iz (0))]))] s.heap := hP
  have hl := lv_entry ([.ref hh]) (n := 1) (Nat.le_of_ble_eq_true rfl)
  rw [lg_entry_eq]
  generalize (lg_sl ([.ref hh]) ++ List.replicate (1 - (lg_sl ([.ref hh])).length) Slot.unset).toArray = ls at hl ⊢
  have hl : lv_has ls 1 [(0, .ref hh)] := hl
  refine lv_aload_n hx hb dX1_init_0 rfl (lv_at hl 0 rfl) ?_
  refine W.objInit hx hb hown w0 w1 w2 rfl (by rw [hml]; exact hl.1) rfl dX1_init_1 (Nat.le_of_ble_eq_true rfl) (Nat.le_of_ble_eq_true rfl) ?_
  refine W.eq (g2 := F0 m 4 ls []) rfl ?_
  refine lv_aload_n hx hb dX1_init_4 rfl (lv_at hl 0 rfl) ?_
  refine lv_bipush (v := iz (7)) hx hb dX1_init_5 (by decide) ?_
  refine lv_bipush (v := iz (115)) hx hb dX1_init_7 (by decide) ?_
  refine kz_mna hx hb hK hP hD hS hA hown w3 hO w4 (N := 7) (K := 115) rfl rfl (by decide) (by decide) (Nat.le_of_ble_eq_true rfl) (Nat.le_of_ble_eq_true rfl) dX1_init_9 (fun q1 r2 H hP hD hS => ?_)
  have hp9 : List.Perm (α := Nat × va_E) (([(hh, .inr (1, [.null, .int (iz (0)), .int (iz (0))]))] ++ [(q1, .inl (T 1, 7, .inr (.inr (.inr (.inr (fun i => some (r2 i)))))))]) ++ kRows T r2 7 115 (fun _ _ => 0)) ([(hh, .inr (1, [.null, .int (iz (0)), .int (iz (0))])), (q1, .inl (T 1, 7, .inr (.inr (.inr (.inr (fun i => some (r2 i)))))))] ++ kRows T r2 7 115 (fun _ _ => 0)) := List.Perm.append_right (kRows T r2 7 115 (fun _ _ => 0)) (kb0 (C := [(hh, .inr (1, [.null, .int (iz (0)), .int (iz (0))]))]) (x := [(q1, .inl (T 1, 7, .inr (.inr (.inr (.inr (fun i => some (r2 i)))))))]))
  have hP : va_P D vwCl ([(hh, .inr (1, [.null, .int (iz (0)), .int (iz (0))])), (q1, .inl (T 1, 7, .inr (.inr (.inr (.inr (fun i => some (r2 i)))))))] ++ kRows T r2 7 115 (fun _ _ => 0)) H := kP_perm hp9 hP
  have hD : va_D A ([(hh, .inr (1, [.null, .int (iz (0)), .int (iz (0))])), (q1, .inl (T 1, 7, .inr (.inr (.inr (.inr (fun i => some (r2 i)))))))] ++ kRows T r2 7 115 (fun _ _ => 0)) := kD_perm hp9 hD
  refine va_putF (D := D) (ci := 1) (v := .ref q1) (ty := .array (.array .int)) (C := RX1) (T := TX1) (N := 3) hx hb hts w6 tyX1 tyX1_ok nmX1 hown hK.1 hP hD hS 0 rfl rfl 0 (by decide) w5 (fun _ h9 => h9) rfl hin rfl (by decide +kernel) rfl rfl (Nat.le_of_ble_eq_true rfl) dX1_init_13 (fun H locs hP hD hS => ?_)
  have hP : va_P D vwCl ([(hh, .inr (1, [.ref q1, .int (iz (0)), .int (iz (0))])), (q1, .inl (T 1, 7, .inr (.inr (.inr (.inr (fun i => some (r2 i)))))))] ++ kRows T r2 7 115 (fun _ _ => 0)) H := hP
  have hD : va_D A ([(hh, .inr (1, [.ref q1, .int (iz (0)), .int (iz (0))])), (q1, .inl (T 1, 7, .inr (.inr (.inr (.inr (fun i => some (r2 i)))))))] ++ kRows T r2 7 115 (fun _ _ => 0)) := hD
  refine lv_aload_n hx hb dX1_init_16 rfl (lv_at hl 0 rfl) ?_
  refine lv_iconst (v := iz (0)) hx hb dX1_init_17 (by decide) ?_
  refine va_put (D := D) (ci := 1) (v := .int (iz (0))) (ty := .int) (C := RX1) (T := TX1) (N := 3) hx hb hts w6 tyX1 tyX1_ok nmX1 hown hK.1 hP hD hS 0 rfl rfl 1 (by decide) w7 (fun _ h9 => h9) rfl (by decide +kernel) rfl rfl (Nat.le_of_ble_eq_true rfl) dX1_init_18 (fun H locs hP hD hS => ?_)
  have hP : va_P D vwCl ([(hh, .inr (1, [.ref q1, .int (iz (0)), .int (iz (0))])), (q1, .inl (T 1, 7, .inr (.inr (.inr (.inr (fun i => some (r2 i)))))))] ++ kRows T r2 7 115 (fun _ _ => 0)) H := hP
  have hD : va_D A ([(hh, .inr (1, [.ref q1, .int (iz (0)), .int (iz (0))])), (q1, .inl (T 1, 7, .inr (.inr (.inr (.inr (fun i => some (r2 i)))))))] ++ kRows T r2 7 115 (fun _ _ => 0)) := hD
  refine lv_aload_n hx hb dX1_init_21 rfl (lv_at hl 0 rfl) ?_
  refine lv_iconst (v := iz (0)) hx hb dX1_init_22 (by decide) ?_
  refine va_put (D := D) (ci := 1) (v := .int (iz (0))) (ty := .int) (C := RX1) (T := TX1) (N := 3) hx hb hts w6 tyX1 tyX1_ok nmX1 hown hK.1 hP hD hS 0 rfl rfl 2 (by decide) w8 (fun _ h9 => h9) rfl (by decide +kernel) rfl rfl (Nat.le_of_ble_eq_true rfl) dX1_init_23 (fun H locs hP hD hS => ?_)
  have hP : va_P D vwCl ([(hh, .inr (1, [.ref q1, .int (iz (0)), .int (iz (0))])), (q1, .inl (T 1, 7, .inr (.inr (.inr (.inr (fun i => some (r2 i)))))))] ++ kRows T r2 7 115 (fun _ _ => 0)) H := hP
  have hD : va_D A ([(hh, .inr (1, [.ref q1, .int (iz (0)), .int (iz (0))])), (q1, .inl (T 1, 7, .inr (.inr (.inr (.inr (fun i => some (r2 i)))))))] ++ kRows T r2 7 115 (fun _ _ => 0)) := hD
  refine W.widen (k := 8) (n := 812) (Nat.le_of_ble_eq_true rfl) (Nat.le_of_ble_eq_true rfl) ?_
  exact W.vret hx hb hr (fun t ht hW => ⟨⟨(q1, r2), rfl, trivial, by show va_P _ _ _ t.heap ∧ va_D _ _; rw [ht]; exact ⟨hP, hD⟩⟩, hS.F ht⟩) hS.2.2 dX1_init_26
