set_option maxHeartbeats 4000000 in
set_option maxRecDepth 100000 in
theorem c_X2_init (l : Launch) (D : va_G) (T : Nat → ClassId) (sz : Nat) (mv : Nat) (h0 : Nat) : Met l yX2_init wsX2_init ({ frames := 2, cells := 1, slots := 115, locals := 81 }) (kPcM D T [.ref h0] "FIRST_VALUES" fvG mv (va_A [(h0, .inr (2, [.null, .int (iz (0))]))] sz) (kW D sz [(h0, .inr (2, [.null, .int (iz (0))]))])) (va_Qv (fun (u : Nat) => True) (fun (u : Nat) (t : State) => va_P D vwCl [(h0, .inr (2, [.ref u, .int (iz (0))])), (u, .inl (T 0, 115, .inl (zA Zini)))] t.heap ∧ va_D (va_A [(h0, .inr (2, [.null, .int (iz (0))]))] sz) [(h0, .inr (2, [.ref u, .int (iz (0))])), (u, .inl (T 0, 115, .inl (zA Zini)))]) (va_A [(h0, .inr (2, [.null, .int (iz (0))]))] sz)) 1 115 (va_A [(h0, .inr (2, [.null, .int (iz (0))]))] sz) := by
  refine Met.ofW (cc := cX2_init) (maxL := 2) (ret := none) (by decide) rfl ?_
  intro p e s m args below meth c s₁ B hml hv
  obtain ⟨rfl, hK, hM, hsz, hP, hD0⟩ := hv
  have hx := B.exec
  have hb := B.bytes
  have hr := B.returns
  have hts := atoms_spec (ws := wsX2_init) B.pre
  have hown : s.vm.findClass RX2 = some m.cls := findClass_of_methodNamed B.named
  have hlocks := B.notSynchronized
  have w0 := hts (.methodLink RX2 5 objectInit) (List.mem_of_getElem? (i := 1) rfl)
  have w1 := hts (.instanceMethod objectInit) (List.mem_of_getElem? (i := 2) rfl)
  have w2 := hts (.code objectInit ⟨#[0xb1]⟩ 1 none) (List.mem_of_getElem? (i := 3) rfl)
  have w3 := hts (.arrayClass .int) (List.mem_of_getElem? (i := 4) rfl)
  have w4 := hts (.fieldLink RX2 11 "LakePlant$Lake" "cells" "[I") (List.mem_of_getElem? (i := 5) rfl)
  have w5 : ∀ w ∈ wsX20, w ∈ wsX2_init := by decide +kernel
  have w6 := hts (.fieldLink RX2 15 "LakePlant$Lake" "version" "I") (List.mem_of_getElem? (i := 6) rfl)
  have w7 := hts (.fieldLink RX2 19 "LakePlant$Lake" "FIRST_VALUES" "[I") (List.mem_of_getElem? (i := 7) rfl)
  have w8 := hts (.initialized RX6) (List.mem_of_getElem? (i := 9) rfl)
  have w9 := hts (.static yX6_copyRow) (List.mem_of_getElem? (i := 8) rfl)
  subst hsz
  have hD := hD0.self (sz := s.heap.size)
  have hin : meth.name = "<init>" := (name_of_methodNamed B.named B.method).1
  generalize hAe : va_A [(h0, .inr (2, [.null, .int (iz (0))]))] s.heap.size = A at hD hM ⊢
  have hA : ∀ q : Nat, s.heap.size ≤ q → A q := fun q h => by rw [← hAe]; exact Or.inr h
  have hS : va_S A s.heap s.heap [] := va_S.rf
  have hP : va_P D vwCl [(h0, .inr (2, [.null, .int (iz (0))]))] s.heap := hP
  have hl := lv_entry ([.ref h0]) (n := 2) (Nat.le_of_ble_eq_true rfl)
  rw [lg_entry_eq]
  generalize (lg_sl ([.ref h0]) ++ List.replicate (2 - (lg_sl ([.ref h0])).length) Slot.unset).toArray = ls at hl ⊢
  have hl : lv_has ls 2 [(0, .ref h0)] := hl
  refine lv_aload_n hx hb dX2_init_0 rfl (lv_at hl 0 rfl) ?_
  refine W.objInit hx hb hown w0 w1 w2 rfl (by rw [hml]; exact hl.1) rfl dX2_init_1 (Nat.le_of_ble_eq_true rfl) (Nat.le_of_ble_eq_true rfl) ?_
  refine W.eq (g2 := F0 m 4 ls []) rfl ?_
  refine lv_aload_n hx hb dX2_init_4 rfl (lv_at hl 0 rfl) ?_
  refine lv_bipush (v := iz (115)) hx hb dX2_init_5 (by decide) ?_
  refine kz_newa (atype := .int) hx hb hK hP hD hS hA 0 rfl w3 rfl (N := 115) rfl (by omega) (by show 115 * 4 ≤ 536870912; omega) (Nat.le_of_ble_eq_true rfl) (Nat.le_of_ble_eq_true rfl) dX2_init_7 (fun q1 H hP hD hS => ?_)
  have hP : va_P D vwCl [(h0, .inr (2, [.null, .int (iz (0))])), (q1, .inl (T 0, 115, .inl (zA (fun _ => 0))))] H := hP
  have hD : va_D A [(h0, .inr (2, [.null, .int (iz (0))])), (q1, .inl (T 0, 115, .inl (zA (fun _ => 0))))] := hD
  refine va_putF (D := D) (ci := 2) (v := .ref q1) (ty := .array .int) (C := RX2) (T := TX2) (N := 2) hx hb hts w5 tyX2 tyX2_ok nmX2 hown hK.1 hP hD hS 0 rfl rfl 0 (by decide) w4 (fun _ h9 => h9) rfl hin rfl (by decide +kernel) rfl rfl (Nat.le_of_ble_eq_true rfl) dX2_init_9 (fun H locs hP hD hS => ?_)
  have hP : va_P D vwCl [(h0, .inr (2, [.ref q1, .int (iz (0))])), (q1, .inl (T 0, 115, .inl (zA (fun _ => 0))))] H := hP
  have hD : va_D A [(h0, .inr (2, [.ref q1, .int (iz (0))])), (q1, .inl (T 0, 115, .inl (zA (fun _ => 0))))] := hD
  refine lv_aload_n hx hb dX2_init_12 rfl (lv_at hl 0 rfl) ?_
  refine lv_iconst (v := iz (0)) hx hb dX2_init_13 (by decide) ?_
  refine va_put (D := D) (ci := 2) (v := .int (iz (0))) (ty := .int) (C := RX2) (T := TX2) (N := 2) hx hb hts w5 tyX2 tyX2_ok nmX2 hown hK.1 hP hD hS 0 rfl rfl 1 (by decide) w6 (fun _ h9 => h9) rfl (by decide +kernel) rfl rfl (Nat.le_of_ble_eq_true rfl) dX2_init_14 (fun H locs hP hD hS => ?_)
  have hP : va_P D vwCl [(h0, .inr (2, [.ref q1, .int (iz (0))])), (q1, .inl (T 0, 115, .inl (zA (fun _ => 0))))] H := hP
  have hD : va_D A [(h0, .inr (2, [.ref q1, .int (iz (0))])), (q1, .inl (T 0, 115, .inl (zA (fun _ => 0))))] := hD
  refine va_gets (v := .ref mv) hx hb hM.1 hS hown w7 (fun _ h => h) dX2_init_17 ?_
  refine lv_aload_n hx hb dX2_init_20 rfl (lv_at hl 0 rfl) ?_
  refine va_get (D := D) (ci := 2) (C := RX2) (T := TX2) (N := 2) hx hb hts w5 hown hK.1 hP 0 rfl rfl 0 (by decide) w4 (fun _ h9 => h9) rfl dX2_init_21 ?_
  have hY := (hM.call hS (va_free (wc := [(q1, .inl (T 0, 115, .inl (zA (fun _ => 0))))]) hD hS hA [1] rfl)).x2
  refine kc_wv (va_runSN (As := [.ref mv, .ref q1]) (rest := []) ⟨hx, hb, hml, hown, hts⟩ (c_X6_copyRowT l D T H.size mv 10 fvG q1 115 (fun _ => 0) hY.2.2 (fun e => hY.2.1 (Or.inl ⟨0, _, by rw [e]; rfl⟩)) (by omega) (by omega)) ⟨va_cnB 2 hts gX2_init_X6_copyRow_n22 rfl rfl rfl (kn_RX2_22 hK) w8 (by decide +kernel) ⟨Nat.le_of_ble_eq_true rfl, Nat.le_of_ble_eq_true rfl⟩, w9, trivial⟩ (kPcY.s hK hY.1 (kW.cut hP hD [1] rfl (by rfl))) rfl rfl hl.1 rfl (lv_room (Nat.le_of_ble_eq_true rfl)) dX2_init_24 ⟨Nat.le_of_ble_eq_true rfl, Nat.le_of_ble_eq_true rfl⟩) hP hD hS hA [1] rfl (fun _ => rfl) (fun u H locs hr2 hP hD hS => ?_)
  have hP : va_P D vwCl [(h0, .inr (2, [.ref q1, .int (iz (0))])), (q1, .inl (T 0, 115, .inl (zA (zmix (min 10 115) fvG (fun _ => 0)))))] H := hP
  have hD : va_D A [(h0, .inr (2, [.ref q1, .int (iz (0))])), (q1, .inl (T 0, 115, .inl (zA (zmix (min 10 115) fvG (fun _ => 0)))))] := hD
  refine lv_iconst (v := iz (0)) hx hb dX2_init_27 (by decide) ?_
  refine lv_istore_n (lv' := [(1, .int (iz (0))), (0, .ref h0)]) hx hb dX2_init_28 rfl hl (by decide) rfl (fun ls hl => ?_)
  have hl : lv_has ls 2 [(1, .int (iz (((0 : Nat) : Int)))), (0, .ref h0)] := by rw [← (show (0 : Int) = ((0 : Nat) : Int) from (by first | rfl | omega))]; exact hl
  have hZ : (zmix (min 10 115) fvG (fun _ => 0) : Nat → Int) = iniF 0 := iniF_0
  have hP : va_P D vwCl [(h0, .inr (2, [.ref q1, .int (iz (0))])), (q1, .inl (T 0, 115, .inl (zA (iniF 0))))] H := by rw [← hZ]; exact hP
  have hD : va_D A [(h0, .inr (2, [.ref q1, .int (iz (0))])), (q1, .inl (T 0, 115, .inl (zA (iniF 0))))] := by rw [← hZ]; exact hD
  refine kz_loopW1 (pc := 29) (I := fun (n : Nat) (H : Heap) (locs : List Loc) (ls : Array Slot) => (n ≤ 24) ∧ va_P D vwCl [(h0, .inr (2, [.ref q1, .int (iz (0))])), (q1, .inl (T 0, 115, .inl (zA (iniF n))))] H ∧ va_D A [(h0, .inr (2, [.ref q1, .int (iz (0))])), (q1, .inl (T 0, 115, .inl (zA (iniF n))))] ∧ va_S A s.heap H locs ∧ lv_has ls 2 [(0, .ref h0), (1, .int (iz (((n : Nat) : Int))))]) (μ := fun (n : Nat) => 24 - n) 0 ⟨(by omega), hP, hD, hS, lv_sub hl [1, 0] rfl⟩ ?_
  rintro n H locs ls ⟨hn, hP, hD, hS, hl⟩ ih29
  refine lv_iload_n hx hb dX2_init_29 rfl (lv_at hl 1 rfl) ?_
  refine lv_bipush (v := iz (24)) hx hb dX2_init_30 (by decide) ?_
  refine kz_icmp_ge (tgt := 62) hx hb dX2_init_32 (by decide) (by omega) (by omega) (fun c32 => ?_) (fun c32 => ?_)
  · have hnn : n = 24 := by omega
    subst hnn
    have hl : lv_has ls 2 [(0, .ref h0), (1, .int (iz (((24 : Nat) : Int))))] := hl
    have hZ : (iniF 24 : Nat → Int) = Zini := rfl
    have hP : va_P D vwCl [(h0, .inr (2, [.ref q1, .int (iz (0))])), (q1, .inl (T 0, 115, .inl (zA Zini)))] H := by rw [hZ] at hP; exact hP
    have hD : va_D A [(h0, .inr (2, [.ref q1, .int (iz (0))])), (q1, .inl (T 0, 115, .inl (zA Zini)))] := by rw [hZ] at hD; exact hD
    refine W.widen (k := 1) (n := 115) (Nat.le_of_ble_eq_true rfl) (Nat.le_of_ble_eq_true rfl) ?_
    exact W.vret hx hb hr (fun t ht hW => ⟨⟨q1, rfl, trivial, by show va_P _ _ _ t.heap ∧ va_D _ _; rw [ht]; exact ⟨hP, hD⟩⟩, hS.F ht⟩) hS.2.2 dX2_init_62
  · refine lv_aload_n hx hb dX2_init_35 rfl (lv_at hl 0 rfl) ?_
    refine va_get (D := D) (ci := 2) (C := RX2) (T := TX2) (N := 2) hx hb hts w5 hown hK.1 hP 0 rfl rfl 0 (by decide) w4 (fun _ h9 => h9) rfl dX2_init_36 ?_
    refine lv_bipush (v := iz (10)) hx hb dX2_init_39 (by decide) ?_
    refine lv_iload_n hx hb dX2_init_41 rfl (lv_at hl 1 rfl) ?_
    refine kz_add hx hb dX2_init_42 ?_
    refine lv_bipush (v := iz (100)) hx hb dX2_init_43 (by decide) ?_
    refine kz_iast hx hb hK hP hD hS (1) rfl (10 + n) (by omega) (by omega) (by omega) dX2_init_45 (fun H locs hP hD hS => ?_)
    have hP : va_P D vwCl [(h0, .inr (2, [.ref q1, .int (iz (0))])), (q1, .inl (T 0, 115, .inl (zA (zup (iniF n) (10 + n) 100))))] H := hP
    have hD : va_D A [(h0, .inr (2, [.ref q1, .int (iz (0))])), (q1, .inl (T 0, 115, .inl (zA (zup (iniF n) (10 + n) 100))))] := hD
    refine lv_aload_n hx hb dX2_init_46 rfl (lv_at hl 0 rfl) ?_
    refine va_get (D := D) (ci := 2) (C := RX2) (T := TX2) (N := 2) hx hb hts w5 hown hK.1 hP 0 rfl rfl 0 (by decide) w4 (fun _ h9 => h9) rfl dX2_init_47 ?_
    refine lv_bipush (v := iz (34)) hx hb dX2_init_50 (by decide) ?_
    refine lv_iload_n hx hb dX2_init_52 rfl (lv_at hl 1 rfl) ?_
    refine kz_add hx hb dX2_init_53 ?_
    refine lv_iconst (v := iz (3)) hx hb dX2_init_54 (by decide) ?_
    refine kz_iast hx hb hK hP hD hS (1) rfl (34 + n) (by omega) (by omega) (by omega) dX2_init_55 (fun H locs hP hD hS => ?_)
    have hP : va_P D vwCl [(h0, .inr (2, [.ref q1, .int (iz (0))])), (q1, .inl (T 0, 115, .inl (zA (zup (zup (iniF n) (10 + n) 100) (34 + n) 3))))] H := hP
    have hD : va_D A [(h0, .inr (2, [.ref q1, .int (iz (0))])), (q1, .inl (T 0, 115, .inl (zA (zup (zup (iniF n) (10 + n) 100) (34 + n) 3))))] := hD
    refine kz_iinc (b := ((n + 1 : Nat) : Int)) (lv' := [(1, .int (iz (((n + 1 : Nat) : Int)))), (0, .ref h0)]) hx hb dX2_init_56 hl (k := 1) rfl (by omega) (by decide) rfl (fun ls hl => ?_)
    refine lv_goto (tgt := 29) hx hb dX2_init_59 (by decide) ?_
    have hZ : (zup (zup (iniF n) (10 + n) 100) (34 + n) 3 : Nat → Int) = iniF (n + 1) := (iniF_s (by omega))
    have hP : va_P D vwCl [(h0, .inr (2, [.ref q1, .int (iz (0))])), (q1, .inl (T 0, 115, .inl (zA (iniF (n + 1)))))] H := by rw [← hZ]; exact hP
    have hD : va_D A [(h0, .inr (2, [.ref q1, .int (iz (0))])), (q1, .inl (T 0, 115, .inl (zA (iniF (n + 1)))))] := by rw [← hZ]; exact hD
    exact ih29 (n + 1) _ _ _ ⟨(by omega), hP, hD, hS, lv_sub hl [1, 0] rfl⟩ (by omega)
