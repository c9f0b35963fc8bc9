set_option maxHeartbeats 4000000 in
set_option maxRecDepth 100000 in
theorem c_X1_keepAside (l : Launch) (D : va_G) (T : Nat → ClassId) (sz : Nat) (hh : Nat) (st : Nat) (asd : Int) (len : Int) (rw : Nat → Nat) (G : Nat → Nat → Int) (h0 : Nat) (h1 : Nat) (Z : Nat → Int) (ve : Int) (ha : 0 ≤ asd ∧ asd < 7) : Met l yX1_keepAside wsX1_keepAside ({ frames := 3, cells := 0, slots := 0, locals := 102 }) (kPc D T [.ref hh, .ref h0] (kW D sz ([(hh, .inr (1, [.ref st, .int (iz (asd)), .int (iz (len))])), (st, .inl (T 1, 7, .inr (.inr (.inr (.inr (fun i => some (rw i))))))), (h0, .inr (2, [.ref h1, .int (iz (ve))])), (h1, .inl (T 0, 115, .inl (zA Z)))] ++ kRows T rw 7 115 G))) (va_Qv (fun (u : Unit) => True) (fun (u : Unit) (t : State) => va_P D vwCl ([(hh, .inr (1, [.ref st, .int (iz (asd)), .int (iz (len))])), (st, .inl (T 1, 7, .inr (.inr (.inr (.inr (fun i => some (rw i))))))), (h0, .inr (2, [.ref h1, .int (iz (ve))])), (h1, .inl (T 0, 115, .inl (zA Z)))] ++ kRows T rw 7 115 (gup G asd.toNat (zmix 115 Z (G asd.toNat)))) t.heap) (va_A ([(hh, .inr (1, [.ref st, .int (iz (asd)), .int (iz (len))])), (st, .inl (T 1, 7, .inr (.inr (.inr (.inr (fun i => some (rw i))))))), (h0, .inr (2, [.ref h1, .int (iz (ve))])), (h1, .inl (T 0, 115, .inl (zA Z)))] ++ kRows T rw 7 115 G) sz)) 0 0 (va_A ([(hh, .inr (1, [.ref st, .int (iz (asd)), .int (iz (len))])), (st, .inl (T 1, 7, .inr (.inr (.inr (.inr (fun i => some (rw i))))))), (h0, .inr (2, [.ref h1, .int (iz (ve))])), (h1, .inl (T 0, 115, .inl (zA Z)))] ++ kRows T rw 7 115 G) sz) := by
  refine Met.ofW (cc := cX1_keepAside) (maxL := 2) (ret := none) (by decide) rfl ?_
  intro p e s m args below meth c s₁ B hml hv
  obtain ⟨rfl, hK, hsz, hP, hD0⟩ := hv
  have hx := B.exec
  have hb := B.bytes
  have hr := B.returns
  have hts := atoms_spec (ws := wsX1_keepAside) B.pre
  have hown : s.vm.findClass RX1 = some m.cls := findClass_of_methodNamed B.named
  have hlocks := B.notSynchronized
  have w0 := hts (.fieldLink RX1 18 "LakePlant$History" "aside" "I") (List.mem_of_getElem? (i := 1) rfl)
  have w1 : ∀ w ∈ wsX10, w ∈ wsX1_keepAside := by decide +kernel
  have w2 := hts (.fieldLink RX1 15 "LakePlant$History" "states" "[[I") (List.mem_of_getElem? (i := 2) rfl)
  have w3 := hts (.initialized RX2) (List.mem_of_getElem? (i := 4) rfl)
  have w4 := hts (.instanceMethod yX2_copyTo) (List.mem_of_getElem? (i := 3) rfl)
  have w5 := hts (.selects RX2 yX2_copyTo yX2_copyTo) (List.mem_of_getElem? (i := 5) rfl)
  subst hsz
  have hD := hD0.self (sz := s.heap.size)
  generalize hAe : va_A ([(hh, .inr (1, [.ref st, .int (iz (asd)), .int (iz (len))])), (st, .inl (T 1, 7, .inr (.inr (.inr (.inr (fun i => some (rw i))))))), (h0, .inr (2, [.ref h1, .int (iz (ve))])), (h1, .inl (T 0, 115, .inl (zA Z)))] ++ kRows T rw 7 115 G) s.heap.size = A at hD ⊢
  have hA : ∀ q : Nat, s.heap.size ≤ q → A q := fun q h => by rw [← hAe]; exact Or.inr h
  have hS : va_S A s.heap s.heap [] := va_S.rf
  have hP : va_P D vwCl ([(hh, .inr (1, [.ref st, .int (iz (asd)), .int (iz (len))])), (st, .inl (T 1, 7, .inr (.inr (.inr (.inr (fun i => some (rw i))))))), (h0, .inr (2, [.ref h1, .int (iz (ve))])), (h1, .inl (T 0, 115, .inl (zA Z)))] ++ kRows T rw 7 115 G) s.heap := hP
  have hl := lv_entry ([.ref hh, .ref h0]) (n := 2) (Nat.le_of_ble_eq_true rfl)
  rw [lg_entry_eq]
  generalize (lg_sl ([.ref hh, .ref h0]) ++ List.replicate (2 - (lg_sl ([.ref hh, .ref h0])).length) Slot.unset).toArray = ls at hl ⊢
  have hl : lv_has ls 2 [(0, .ref hh), (1, .ref h0)] := hl
  refine lv_aload_n hx hb dX1_keepAside_0 rfl (lv_at hl 0 rfl) ?_
  refine va_get (D := D) (ci := 1) (C := RX1) (T := TX1) (N := 3) hx hb hts w1 hown hK.1 hP 0 rfl rfl 1 (by decide) w0 (fun _ h9 => h9) rfl dX1_keepAside_1 ?_
  refine kz_if_lt (tgt := 29) hx hb dX1_keepAside_4 (by decide) (by omega) (fun c4 => False.elim (by omega)) (fun c4 => ?_)
  refine lv_aload_n hx hb dX1_keepAside_7 rfl (lv_at hl 0 rfl) ?_
  refine va_get (D := D) (ci := 1) (C := RX1) (T := TX1) (N := 3) hx hb hts w1 hown hK.1 hP 0 rfl rfl 1 (by decide) w0 (fun _ h9 => h9) rfl dX1_keepAside_8 ?_
  refine lv_bipush (v := iz (7)) hx hb dX1_keepAside_11 (by decide) ?_
  refine kz_icmp_ge (tgt := 29) hx hb dX1_keepAside_13 (by decide) (by omega) (by omega) (fun c13 => False.elim (by omega)) (fun c13 => ?_)
  refine lv_aload_n hx hb dX1_keepAside_16 rfl (lv_at hl 1 rfl) ?_
  refine lv_aload_n hx hb dX1_keepAside_17 rfl (lv_at hl 0 rfl) ?_
  refine va_get (D := D) (ci := 1) (C := RX1) (T := TX1) (N := 3) hx hb hts w1 hown hK.1 hP 0 rfl rfl 0 (by decide) w2 (fun _ h9 => h9) rfl dX1_keepAside_18 ?_
  refine lv_aload_n hx hb dX1_keepAside_21 rfl (lv_at hl 0 rfl) ?_
  refine va_get (D := D) (ci := 1) (C := RX1) (T := TX1) (N := 3) hx hb hts w1 hown hK.1 hP 0 rfl rfl 1 (by decide) w0 (fun _ h9 => h9) rfl dX1_keepAside_22 ?_
  refine kz_aald hx hb hK hP 1 rfl (asd.toNat) (by omega) (by omega) (by omega) (y := rw asd.toNat) rfl dX1_keepAside_25 ?_
  refine kc_wv (va_runVN (As := [.ref (rw asd.toNat)]) (rest := []) ⟨hx, hb, hml, hown, hts⟩ (c_X2_copyTo l D T s.heap.size h0 h1 Z ve (rw asd.toNat) (G asd.toNat)) ⟨va_cnB 1 hts gX1_keepAside_X2_copyTo_n25 rfl rfl rfl (kn_RX1_25 hK) w3 (by decide +kernel) ⟨Nat.le_of_ble_eq_true rfl, Nat.le_of_ble_eq_true rfl⟩, w4, w5⟩ (kPc.v hK (va_recv hK.1 hP (ci := 2) (q0 := 2) rfl rfl) (kW.cut hP hD [2, 3, 4 + asd.toNat] (congrArg (fun o : Option (Nat × va_E) => ([some (h0, .inr (2, [.ref h1, .int (iz (ve))])), some (h1, .inl (T 0, 115, .inl (zA Z))), o] : List (Option (Nat × va_E)))) (kRows_get (X := [(hh, .inr (1, [.ref st, .int (iz (asd)), .int (iz (len))])), (st, .inl (T 1, 7, .inr (.inr (.inr (.inr (fun i => some (rw i))))))), (h0, .inr (2, [.ref h1, .int (iz (ve))])), (h1, .inl (T 0, 115, .inl (zA Z)))]) (by omega))) (by simp [va_nd]; omega))) rfl rfl hl.1 rfl (lv_room (Nat.le_of_ble_eq_true rfl)) dX1_keepAside_26 ⟨Nat.zero_le _, Nat.zero_le _⟩) hP hD hS hA [2, 3, 4 + asd.toNat] (congrArg (fun o : Option (Nat × va_E) => ([some (h0, .inr (2, [.ref h1, .int (iz (ve))])), some (h1, .inl (T 0, 115, .inl (zA Z))), o] : List (Option (Nat × va_E)))) (kRows_get (X := [(hh, .inr (1, [.ref st, .int (iz (asd)), .int (iz (len))])), (st, .inl (T 1, 7, .inr (.inr (.inr (.inr (fun i => some (rw i))))))), (h0, .inr (2, [.ref h1, .int (iz (ve))])), (h1, .inl (T 0, 115, .inl (zA Z)))]) (by omega))) (fun _ => rfl) (fun u H locs hr1 hP hD hS => ?_)
  have hP : va_P D vwCl ([(hh, .inr (1, [.ref st, .int (iz (asd)), .int (iz (len))])), (st, .inl (T 1, 7, .inr (.inr (.inr (.inr (fun i => some (rw i))))))), (h0, .inr (2, [.ref h1, .int (iz (ve))])), (h1, .inl (T 0, 115, .inl (zA Z)))] ++ kRows T rw 7 115 (gup G asd.toNat (zmix 115 Z (G asd.toNat)))) H := by rw [← kRows_set (X := [(hh, .inr (1, [.ref st, .int (iz (asd)), .int (iz (len))])), (st, .inl (T 1, 7, .inr (.inr (.inr (.inr (fun i => some (rw i))))))), (h0, .inr (2, [.ref h1, .int (iz (ve))])), (h1, .inl (T 0, 115, .inl (zA Z)))])]; exact hP
  have hD : va_D A ([(hh, .inr (1, [.ref st, .int (iz (asd)), .int (iz (len))])), (st, .inl (T 1, 7, .inr (.inr (.inr (.inr (fun i => some (rw i))))))), (h0, .inr (2, [.ref h1, .int (iz (ve))])), (h1, .inl (T 0, 115, .inl (zA Z)))] ++ kRows T rw 7 115 (gup G asd.toNat (zmix 115 Z (G asd.toNat)))) := by rw [← kRows_set (X := [(hh, .inr (1, [.ref st, .int (iz (asd)), .int (iz (len))])), (st, .inl (T 1, 7, .inr (.inr (.inr (.inr (fun i => some (rw i))))))), (h0, .inr (2, [.ref h1, .int (iz (ve))])), (h1, .inl (T 0, 115, .inl (zA Z)))])]; exact hD
  have hP : va_P D vwCl ([(hh, .inr (1, [.ref st, .int (iz (asd)), .int (iz (len))])), (st, .inl (T 1, 7, .inr (.inr (.inr (.inr (fun i => some (rw i))))))), (h0, .inr (2, [.ref h1, .int (iz (ve))])), (h1, .inl (T 0, 115, .inl (zA Z)))] ++ kRows T rw 7 115 (gup G asd.toNat (zmix 115 Z (G asd.toNat)))) H := hP
  have hD : va_D A ([(hh, .inr (1, [.ref st, .int (iz (asd)), .int (iz (len))])), (st, .inl (T 1, 7, .inr (.inr (.inr (.inr (fun i => some (rw i))))))), (h0, .inr (2, [.ref h1, .int (iz (ve))])), (h1, .inl (T 0, 115, .inl (zA Z)))] ++ kRows T rw 7 115 (gup G asd.toNat (zmix 115 Z (G asd.toNat)))) := hD
  exact W.vret hx hb hr (fun t ht hW => ⟨⟨(), rfl, trivial, by show va_P _ _ _ t.heap; rw [ht]; exact hP⟩, hS.F ht⟩) hS.2.2 dX1_keepAside_29
set_option maxHeartbeats 4000000 in
set_option maxRecDepth 100000 in
theorem c_X1_recordUnlessError (l : Launch) (D : va_G) (T : Nat → ClassId) (sz : Nat) (hh : Nat) (st : Nat) (asd : Int) (len : Int) (aa : Int) (hia : -2147483648 ≤ aa ∧ aa < 2147483648) (ha : 0 ≤ asd ∧ asd < 7) (hlen : 0 ≤ len ∧ len ≤ 6) : Met l yX1_recordUnlessError wsX1_recordUnlessError ({ frames := 1, cells := 0, slots := 0, locals := 21 }) (kPc D T [.ref hh, .int (iz (aa))] (kW D sz [(hh, .inr (1, [.ref st, .int (iz (asd)), .int (iz (len))]))])) (va_Qi (fun (r : Int32) (u : Unit) => r = iz (aa)) (fun (u : Unit) (t : State) => va_P D vwCl [(hh, .inr (1, [.ref st, .int (iz (if aa < 0 then asd else (asd + 1) % 7)), .int (iz (if aa < 0 then len else min (len + 1) 6))]))] t.heap) (va_A [(hh, .inr (1, [.ref st, .int (iz (asd)), .int (iz (len))]))] sz)) 0 0 (va_A [(hh, .inr (1, [.ref st, .int (iz (asd)), .int (iz (len))]))] sz) := by
  refine Met.ofW (cc := cX1_recordUnlessError) (maxL := 2) (ret := (some .int)) (by decide) rfl ?_
  intro p e s m args below meth c s₁ B hml hv
  obtain ⟨rfl, hK, hsz, hP, hD0⟩ := hv
  have hx := B.exec
  have hb := B.bytes
  have hr := B.returns
  have hts := atoms_spec (ws := wsX1_recordUnlessError) B.pre
  have hown : s.vm.findClass RX1 = some m.cls := findClass_of_methodNamed B.named
  have hlocks := B.notSynchronized
  have w0 := hts (.fieldLink RX1 18 "LakePlant$History" "aside" "I") (List.mem_of_getElem? (i := 1) rfl)
  have w1 : ∀ w ∈ wsX10, w ∈ wsX1_recordUnlessError := by decide +kernel
  have w2 := hts (.fieldLink RX1 22 "LakePlant$History" "length" "I") (List.mem_of_getElem? (i := 2) rfl)
  have w3 := hts (.methodLink RX1 29 Lib.Math.min.name) (List.mem_of_getElem? (i := 3) rfl)
  have w4 := hts (.static Lib.Math.min.name) (List.mem_of_getElem? (i := 4) rfl)
  have w5 := hts (.initialized "java/lang/Math") (List.mem_of_getElem? (i := 5) rfl)
  have w6 := hts (.code Lib.Math.min.name Lib.Math.min.code 2 (some .int)) (List.mem_of_getElem? (i := 6) rfl)
  subst hsz
  have hD := hD0.self (sz := s.heap.size)
  generalize hAe : va_A [(hh, .inr (1, [.ref st, .int (iz (asd)), .int (iz (len))]))] s.heap.size = A at hD ⊢
  have hA : ∀ q : Nat, s.heap.size ≤ q → A q := fun q h => by rw [← hAe]; exact Or.inr h
  have hS : va_S A s.heap s.heap [] := va_S.rf
  have hP : va_P D vwCl [(hh, .inr (1, [.ref st, .int (iz (asd)), .int (iz (len))]))] s.heap := hP
  have hl := lv_entry ([.ref hh, .int (iz (aa))]) (n := 2) (Nat.le_of_ble_eq_true rfl)
  rw [lg_entry_eq]
  generalize (lg_sl ([.ref hh, .int (iz (aa))]) ++ List.replicate (2 - (lg_sl ([.ref hh, .int (iz (aa))])).length) Slot.unset).toArray = ls at hl ⊢
  have hl : lv_has ls 2 [(0, .ref hh), (1, .int (iz (aa)))] := hl
  refine lv_iload_n hx hb dX1_recordUnlessError_0 rfl (lv_at hl 1 rfl) ?_
  refine kz_if_lt (tgt := 32) hx hb dX1_recordUnlessError_1 (by decide) (by omega) (fun c1 => ?_) (fun c1 => ?_)
  · refine lv_iload_n hx hb dX1_recordUnlessError_32 rfl (lv_at hl 1 rfl) ?_
    have hZ : (asd : Int) = if aa < 0 then asd else (asd + 1) % 7 := (by split <;> omega)
    have hP : va_P D vwCl [(hh, .inr (1, [.ref st, .int (iz (if aa < 0 then asd else (asd + 1) % 7)), .int (iz (len))]))] s.heap := by rw [← hZ]; exact hP
    have hD : va_D A [(hh, .inr (1, [.ref st, .int (iz (if aa < 0 then asd else (asd + 1) % 7)), .int (iz (len))]))] := by rw [← hZ]; exact hD
    have hZ : (len : Int) = if aa < 0 then len else min (len + 1) 6 := (by split <;> omega)
    have hP : va_P D vwCl [(hh, .inr (1, [.ref st, .int (iz (if aa < 0 then asd else (asd + 1) % 7)), .int (iz (if aa < 0 then len else min (len + 1) 6))]))] s.heap := by rw [← hZ]; exact hP
    have hD : va_D A [(hh, .inr (1, [.ref st, .int (iz (if aa < 0 then asd else (asd + 1) % 7)), .int (iz (if aa < 0 then len else min (len + 1) 6))]))] := by rw [← hZ]; exact hD
    exact W.iret hx hb hr (fun t ht hW => ⟨⟨_, (), rfl, rfl, by show va_P _ _ _ t.heap; rw [ht]; exact hP⟩, hS.F ht⟩) hS.2.2 dX1_recordUnlessError_33
  · refine lv_aload_n hx hb dX1_recordUnlessError_4 rfl (lv_at hl 0 rfl) ?_
    refine lv_aload_n hx hb dX1_recordUnlessError_5 rfl (lv_at hl 0 rfl) ?_
    refine va_get (D := D) (ci := 1) (C := RX1) (T := TX1) (N := 3) hx hb hts w1 hown hK.1 hP 0 rfl rfl 1 (by decide) w0 (fun _ h9 => h9) rfl dX1_recordUnlessError_6 ?_
    refine lv_iconst (v := iz (1)) hx hb dX1_recordUnlessError_9 (by decide) ?_
    refine kz_add hx hb dX1_recordUnlessError_10 ?_
    refine lv_bipush (v := iz (7)) hx hb dX1_recordUnlessError_11 (by decide) ?_
    refine kz_rem hx hb (by omega) (by omega) dX1_recordUnlessError_13 ?_
    refine va_put (D := D) (ci := 1) (v := .int (iz ((asd + 1) % 7))) (ty := .int) (C := RX1) (T := TX1) (N := 3) hx hb hts w1 tyX1 tyX1_ok nmX1 hown hK.1 hP hD hS 0 rfl rfl 1 (by decide) w0 (fun _ h9 => h9) rfl (by decide +kernel) rfl rfl (Nat.le_of_ble_eq_true rfl) dX1_recordUnlessError_14 (fun H locs hP hD hS => ?_)
    have hP : va_P D vwCl [(hh, .inr (1, [.ref st, .int (iz ((asd + 1) % 7)), .int (iz (len))]))] H := hP
    have hD : va_D A [(hh, .inr (1, [.ref st, .int (iz ((asd + 1) % 7)), .int (iz (len))]))] := hD
    refine lv_aload_n hx hb dX1_recordUnlessError_17 rfl (lv_at hl 0 rfl) ?_
    refine lv_aload_n hx hb dX1_recordUnlessError_18 rfl (lv_at hl 0 rfl) ?_
    refine va_get (D := D) (ci := 1) (C := RX1) (T := TX1) (N := 3) hx hb hts w1 hown hK.1 hP 0 rfl rfl 2 (by decide) w2 (fun _ h9 => h9) rfl dX1_recordUnlessError_19 ?_
    refine lv_iconst (v := iz (1)) hx hb dX1_recordUnlessError_22 (by decide) ?_
    refine kz_add hx hb dX1_recordUnlessError_23 ?_
    refine lv_bipush (v := iz (6)) hx hb dX1_recordUnlessError_24 (by decide) ?_
    refine kz_mmin hx hb (by rw [hml]; exact hl.1.symm) hown w3 w4 w5 w6 (Nat.le_of_ble_eq_true rfl) (Nat.le_of_ble_eq_true rfl) (Nat.zero_le _) (Nat.zero_le _) (by omega) (by omega) dX1_recordUnlessError_26 ?_
    refine va_put (D := D) (ci := 1) (v := .int (iz (min (len + 1) 6))) (ty := .int) (C := RX1) (T := TX1) (N := 3) hx hb hts w1 tyX1 tyX1_ok nmX1 hown hK.1 hP hD hS 0 rfl rfl 2 (by decide) w2 (fun _ h9 => h9) rfl (by decide +kernel) rfl rfl (Nat.le_of_ble_eq_true rfl) dX1_recordUnlessError_29 (fun H locs hP hD hS => ?_)
    have hP : va_P D vwCl [(hh, .inr (1, [.ref st, .int (iz ((asd + 1) % 7)), .int (iz (min (len + 1) 6))]))] H := hP
    have hD : va_D A [(hh, .inr (1, [.ref st, .int (iz ((asd + 1) % 7)), .int (iz (min (len + 1) 6))]))] := hD
    refine lv_iload_n hx hb dX1_recordUnlessError_32 rfl (lv_at hl 1 rfl) ?_
    have hZ : ((asd + 1) % 7 : Int) = if aa < 0 then asd else (asd + 1) % 7 := (by split <;> omega)
    have hP : va_P D vwCl [(hh, .inr (1, [.ref st, .int (iz (if aa < 0 then asd else (asd + 1) % 7)), .int (iz (min (len + 1) 6))]))] H := by rw [← hZ]; exact hP
    have hD : va_D A [(hh, .inr (1, [.ref st, .int (iz (if aa < 0 then asd else (asd + 1) % 7)), .int (iz (min (len + 1) 6))]))] := by rw [← hZ]; exact hD
    have hZ : (min (len + 1) 6 : Int) = if aa < 0 then len else min (len + 1) 6 := (by split <;> omega)
    have hP : va_P D vwCl [(hh, .inr (1, [.ref st, .int (iz (if aa < 0 then asd else (asd + 1) % 7)), .int (iz (if aa < 0 then len else min (len + 1) 6))]))] H := by rw [← hZ]; exact hP
    have hD : va_D A [(hh, .inr (1, [.ref st, .int (iz (if aa < 0 then asd else (asd + 1) % 7)), .int (iz (if aa < 0 then len else min (len + 1) 6))]))] := by rw [← hZ]; exact hD
    exact W.iret hx hb hr (fun t ht hW => ⟨⟨_, (), rfl, rfl, by show va_P _ _ _ t.heap; rw [ht]; exact hP⟩, hS.F ht⟩) hS.2.2 dX1_recordUnlessError_33
set_option maxHeartbeats 4000000 in
set_option maxRecDepth 100000 in
theorem c_X1_takeBack (l : Launch) (D : va_G) (T : Nat → ClassId) (sz : Nat) (hh : Nat) (st : Nat) (asd : Int) (len : Int) (rw : Nat → Nat) (G : Nat → Nat → Int) (h0 : Nat) (h1 : Nat) (Z : Nat → Int) (ve : Int) (ha : 0 ≤ asd ∧ asd < 7) (hlen : 0 ≤ len ∧ len ≤ 6) : Met l yX1_takeBack wsX1_takeBack ({ frames := 3, cells := 0, slots := 0, locals := 102 }) (kPc D T [.ref hh, .ref h0] (kW D sz ([(hh, .inr (1, [.ref st, .int (iz (asd)), .int (iz (len))])), (st, .inl (T 1, 7, .inr (.inr (.inr (.inr (fun i => some (rw i))))))), (h0, .inr (2, [.ref h1, .int (iz (ve))])), (h1, .inl (T 0, 115, .inl (zA Z)))] ++ kRows T rw 7 115 G))) (va_Qi (fun (r : Int32) (u : Unit) => r = iz (if len = 0 then -5 else len - 1)) (fun (u : Unit) (t : State) => va_P D vwCl ([(hh, .inr (1, [.ref st, .int (iz (if len = 0 then asd else (asd + 6) % 7)), .int (iz (if len = 0 then len else len - 1))])), (st, .inl (T 1, 7, .inr (.inr (.inr (.inr (fun i => some (rw i))))))), (h0, .inr (2, [.ref h1, .int (iz (if len = 0 then ve else ve + 1))])), (h1, .inl (T 0, 115, .inl (zA (if len = 0 then Z else zmix 115 (G ((asd + 6) % 7).toNat) Z))))] ++ kRows T rw 7 115 G) t.heap) (va_A ([(hh, .inr (1, [.ref st, .int (iz (asd)), .int (iz (len))])), (st, .inl (T 1, 7, .inr (.inr (.inr (.inr (fun i => some (rw i))))))), (h0, .inr (2, [.ref h1, .int (iz (ve))])), (h1, .inl (T 0, 115, .inl (zA Z)))] ++ kRows T rw 7 115 G) sz)) 0 0 (va_A ([(hh, .inr (1, [.ref st, .int (iz (asd)), .int (iz (len))])), (st, .inl (T 1, 7, .inr (.inr (.inr (.inr (fun i => some (rw i))))))), (h0, .inr (2, [.ref h1, .int (iz (ve))])), (h1, .inl (T 0, 115, .inl (zA Z)))] ++ kRows T rw 7 115 G) sz) := by
  refine Met.ofW (cc := cX1_takeBack) (maxL := 2) (ret := (some .int)) (by decide) rfl ?_
  intro p e s m args below meth c s₁ B hml hv
  obtain ⟨rfl, hK, hsz, hP, hD0⟩ := hv
  have hx := B.exec
  have hb := B.bytes
  have hr := B.returns
  have hts := atoms_spec (ws := wsX1_takeBack) B.pre
  have hown : s.vm.findClass RX1 = some m.cls := findClass_of_methodNamed B.named
  have hlocks := B.notSynchronized
  have w0 := hts (.fieldLink RX1 22 "LakePlant$History" "length" "I") (List.mem_of_getElem? (i := 1) rfl)
  have w1 : ∀ w ∈ wsX10, w ∈ wsX1_takeBack := by decide +kernel
  have w2 := hts (.fieldLink RX1 18 "LakePlant$History" "aside" "I") (List.mem_of_getElem? (i := 2) rfl)
  have w3 := hts (.fieldLink RX1 15 "LakePlant$History" "states" "[[I") (List.mem_of_getElem? (i := 3) rfl)
  have w4 := hts (.initialized RX2) (List.mem_of_getElem? (i := 5) rfl)
  have w5 := hts (.instanceMethod yX2_copyFrom) (List.mem_of_getElem? (i := 4) rfl)
  have w6 := hts (.selects RX2 yX2_copyFrom yX2_copyFrom) (List.mem_of_getElem? (i := 6) rfl)
  subst hsz
  have hD := hD0.self (sz := s.heap.size)
  generalize hAe : va_A ([(hh, .inr (1, [.ref st, .int (iz (asd)), .int (iz (len))])), (st, .inl (T 1, 7, .inr (.inr (.inr (.inr (fun i => some (rw i))))))), (h0, .inr (2, [.ref h1, .int (iz (ve))])), (h1, .inl (T 0, 115, .inl (zA Z)))] ++ kRows T rw 7 115 G) s.heap.size = A at hD ⊢
  have hA : ∀ q : Nat, s.heap.size ≤ q → A q := fun q h => by rw [← hAe]; exact Or.inr h
  have hS : va_S A s.heap s.heap [] := va_S.rf
  have hP : va_P D vwCl ([(hh, .inr (1, [.ref st, .int (iz (asd)), .int (iz (len))])), (st, .inl (T 1, 7, .inr (.inr (.inr (.inr (fun i => some (rw i))))))), (h0, .inr (2, [.ref h1, .int (iz (ve))])), (h1, .inl (T 0, 115, .inl (zA Z)))] ++ kRows T rw 7 115 G) s.heap := hP
  have hl := lv_entry ([.ref hh, .ref h0]) (n := 2) (Nat.le_of_ble_eq_true rfl)
  rw [lg_entry_eq]
  generalize (lg_sl ([.ref hh, .ref h0]) ++ List.replicate (2 - (lg_sl ([.ref hh, .ref h0])).length) Slot.unset).toArray = ls at hl ⊢
  have hl : lv_has ls 2 [(0, .ref hh), (1, .ref h0)] := hl
  refine lv_aload_n hx hb dX1_takeBack_0 rfl (lv_at hl 0 rfl) ?_
  refine va_get (D := D) (ci := 1) (C := RX1) (T := TX1) (N := 3) hx hb hts w1 hown hK.1 hP 0 rfl rfl 2 (by decide) w0 (fun _ h9 => h9) rfl dX1_takeBack_1 ?_
  refine kz_if_ne (tgt := 10) hx hb dX1_takeBack_4 (by decide) (by omega) (fun c4 => ?_) (fun c4 => ?_)
  · refine lv_aload_n hx hb dX1_takeBack_10 rfl (lv_at hl 0 rfl) ?_
    refine lv_aload_n hx hb dX1_takeBack_11 rfl (lv_at hl 0 rfl) ?_
    refine va_get (D := D) (ci := 1) (C := RX1) (T := TX1) (N := 3) hx hb hts w1 hown hK.1 hP 0 rfl rfl 1 (by decide) w2 (fun _ h9 => h9) rfl dX1_takeBack_12 ?_
    refine lv_bipush (v := iz (7)) hx hb dX1_takeBack_15 (by decide) ?_
    refine kz_add hx hb dX1_takeBack_17 ?_
    refine lv_iconst (v := iz (1)) hx hb dX1_takeBack_18 (by decide) ?_
    refine kz_sub hx hb dX1_takeBack_19 ?_
    refine lv_bipush (v := iz (7)) hx hb dX1_takeBack_20 (by decide) ?_
    refine kz_rem hx hb (by omega) (by omega) dX1_takeBack_22 ?_
    refine kz_top (y := (asd + 6) % 7) (by omega) ?_
    refine va_put (D := D) (ci := 1) (v := .int (iz ((asd + 6) % 7))) (ty := .int) (C := RX1) (T := TX1) (N := 3) hx hb hts w1 tyX1 tyX1_ok nmX1 hown hK.1 hP hD hS 0 rfl rfl 1 (by decide) w2 (fun _ h9 => h9) rfl (by decide +kernel) rfl rfl (Nat.le_of_ble_eq_true rfl) dX1_takeBack_23 (fun H locs hP hD hS => ?_)
    have hP : va_P D vwCl ([(hh, .inr (1, [.ref st, .int (iz ((asd + 6) % 7)), .int (iz (len))])), (st, .inl (T 1, 7, .inr (.inr (.inr (.inr (fun i => some (rw i))))))), (h0, .inr (2, [.ref h1, .int (iz (ve))])), (h1, .inl (T 0, 115, .inl (zA Z)))] ++ kRows T rw 7 115 G) H := hP
    have hD : va_D A ([(hh, .inr (1, [.ref st, .int (iz ((asd + 6) % 7)), .int (iz (len))])), (st, .inl (T 1, 7, .inr (.inr (.inr (.inr (fun i => some (rw i))))))), (h0, .inr (2, [.ref h1, .int (iz (ve))])), (h1, .inl (T 0, 115, .inl (zA Z)))] ++ kRows T rw 7 115 G) := hD
    refine lv_aload_n hx hb dX1_takeBack_26 rfl (lv_at hl 0 rfl) ?_
    refine lv_dup hx hb dX1_takeBack_27 rfl ?_
    refine va_get (D := D) (ci := 1) (C := RX1) (T := TX1) (N := 3) hx hb hts w1 hown hK.1 hP 0 rfl rfl 2 (by decide) w0 (fun _ h9 => h9) rfl dX1_takeBack_28 ?_
    refine lv_iconst (v := iz (1)) hx hb dX1_takeBack_31 (by decide) ?_
    refine kz_sub hx hb dX1_takeBack_32 ?_
    refine va_put (D := D) (ci := 1) (v := .int (iz (len - 1))) (ty := .int) (C := RX1) (T := TX1) (N := 3) hx hb hts w1 tyX1 tyX1_ok nmX1 hown hK.1 hP hD hS 0 rfl rfl 2 (by decide) w0 (fun _ h9 => h9) rfl (by decide +kernel) rfl rfl (Nat.le_of_ble_eq_true rfl) dX1_takeBack_33 (fun H locs hP hD hS => ?_)
    have hP : va_P D vwCl ([(hh, .inr (1, [.ref st, .int (iz ((asd + 6) % 7)), .int (iz (len - 1))])), (st, .inl (T 1, 7, .inr (.inr (.inr (.inr (fun i => some (rw i))))))), (h0, .inr (2, [.ref h1, .int (iz (ve))])), (h1, .inl (T 0, 115, .inl (zA Z)))] ++ kRows T rw 7 115 G) H := hP
    have hD : va_D A ([(hh, .inr (1, [.ref st, .int (iz ((asd + 6) % 7)), .int (iz (len - 1))])), (st, .inl (T 1, 7, .inr (.inr (.inr (.inr (fun i => some (rw i))))))), (h0, .inr (2, [.ref h1, .int (iz (ve))])), (h1, .inl (T 0, 115, .inl (zA Z)))] ++ kRows T rw 7 115 G) := hD
    refine lv_aload_n hx hb dX1_takeBack_36 rfl (lv_at hl 0 rfl) ?_
    refine va_get (D := D) (ci := 1) (C := RX1) (T := TX1) (N := 3) hx hb hts w1 hown hK.1 hP 0 rfl rfl 1 (by decide) w2 (fun _ h9 => h9) rfl dX1_takeBack_37 ?_
    refine kz_if_lt (tgt := 65) hx hb dX1_takeBack_40 (by decide) (by omega) (fun c40 => False.elim (by omega)) (fun c40 => ?_)
    refine lv_aload_n hx hb dX1_takeBack_43 rfl (lv_at hl 0 rfl) ?_
    refine va_get (D := D) (ci := 1) (C := RX1) (T := TX1) (N := 3) hx hb hts w1 hown hK.1 hP 0 rfl rfl 1 (by decide) w2 (fun _ h9 => h9) rfl dX1_takeBack_44 ?_
    refine lv_bipush (v := iz (7)) hx hb dX1_takeBack_47 (by decide) ?_
    refine kz_icmp_ge (tgt := 65) hx hb dX1_takeBack_49 (by decide) (by omega) (by omega) (fun c49 => False.elim (by omega)) (fun c49 => ?_)
    refine lv_aload_n hx hb dX1_takeBack_52 rfl (lv_at hl 1 rfl) ?_
    refine lv_aload_n hx hb dX1_takeBack_53 rfl (lv_at hl 0 rfl) ?_
    refine va_get (D := D) (ci := 1) (C := RX1) (T := TX1) (N := 3) hx hb hts w1 hown hK.1 hP 0 rfl rfl 0 (by decide) w3 (fun _ h9 => h9) rfl dX1_takeBack_54 ?_
    refine lv_aload_n hx hb dX1_takeBack_57 rfl (lv_at hl 0 rfl) ?_
    refine va_get (D := D) (ci := 1) (C := RX1) (T := TX1) (N := 3) hx hb hts w1 hown hK.1 hP 0 rfl rfl 1 (by decide) w2 (fun _ h9 => h9) rfl dX1_takeBack_58 ?_
    refine kz_aald hx hb hK hP 1 rfl (((asd + 6) % 7).toNat) (by omega) (by omega) (by omega) (y := rw ((asd + 6) % 7).toNat) rfl dX1_takeBack_61 ?_
    refine kc_wv (va_runVN (As := [.ref (rw ((asd + 6) % 7).toNat)]) (rest := []) ⟨hx, hb, hml, hown, hts⟩ (c_X2_copyFrom l D T H.size h0 h1 Z ve (rw ((asd + 6) % 7).toNat) (G (((asd + 6) % 7).toNat))) ⟨va_cnB 1 hts gX1_takeBack_X2_copyFrom_n35 rfl rfl rfl (kn_RX1_35 hK) w4 (by decide +kernel) ⟨Nat.le_of_ble_eq_true rfl, Nat.le_of_ble_eq_true rfl⟩, w5, w6⟩ (kPc.v hK (va_recv hK.1 hP (ci := 2) (q0 := 2) rfl rfl) (kW.cut hP hD [2, 3, 4 + (((asd + 6) % 7).toNat)] (congrArg (fun o : Option (Nat × va_E) => ([some (h0, .inr (2, [.ref h1, .int (iz (ve))])), some (h1, .inl (T 0, 115, .inl (zA Z))), o] : List (Option (Nat × va_E)))) (kRows_get (X := [(hh, .inr (1, [.ref st, .int (iz ((asd + 6) % 7)), .int (iz (len - 1))])), (st, .inl (T 1, 7, .inr (.inr (.inr (.inr (fun i => some (rw i))))))), (h0, .inr (2, [.ref h1, .int (iz (ve))])), (h1, .inl (T 0, 115, .inl (zA Z)))]) (by omega))) (by simp [va_nd]; omega))) rfl rfl hl.1 rfl (lv_room (Nat.le_of_ble_eq_true rfl)) dX1_takeBack_62 ⟨Nat.zero_le _, Nat.zero_le _⟩) hP hD hS hA [2, 3, 4 + (((asd + 6) % 7).toNat)] (congrArg (fun o : Option (Nat × va_E) => ([some (h0, .inr (2, [.ref h1, .int (iz (ve))])), some (h1, .inl (T 0, 115, .inl (zA Z))), o] : List (Option (Nat × va_E)))) (kRows_get (X := [(hh, .inr (1, [.ref st, .int (iz ((asd + 6) % 7)), .int (iz (len - 1))])), (st, .inl (T 1, 7, .inr (.inr (.inr (.inr (fun i => some (rw i))))))), (h0, .inr (2, [.ref h1, .int (iz (ve))])), (h1, .inl (T 0, 115, .inl (zA Z)))]) (by omega))) (fun _ => rfl) (fun u H locs hr1 hP hD hS => ?_)
    have hP : va_P D vwCl ([(hh, .inr (1, [.ref st, .int (iz ((asd + 6) % 7)), .int (iz (len - 1))])), (st, .inl (T 1, 7, .inr (.inr (.inr (.inr (fun i => some (rw i))))))), (h0, .inr (2, [.ref h1, .int (iz (ve + 1))])), (h1, .inl (T 0, 115, .inl (zA (zmix 115 (G (((asd + 6) % 7).toNat)) Z))))] ++ kRows T rw 7 115 (gup G (((asd + 6) % 7).toNat) (G (((asd + 6) % 7).toNat)))) H := by rw [← kRows_set (X := [(hh, .inr (1, [.ref st, .int (iz ((asd + 6) % 7)), .int (iz (len - 1))])), (st, .inl (T 1, 7, .inr (.inr (.inr (.inr (fun i => some (rw i))))))), (h0, .inr (2, [.ref h1, .int (iz (ve + 1))])), (h1, .inl (T 0, 115, .inl (zA (zmix 115 (G (((asd + 6) % 7).toNat)) Z))))])]; exact hP
    have hD : va_D A ([(hh, .inr (1, [.ref st, .int (iz ((asd + 6) % 7)), .int (iz (len - 1))])), (st, .inl (T 1, 7, .inr (.inr (.inr (.inr (fun i => some (rw i))))))), (h0, .inr (2, [.ref h1, .int (iz (ve + 1))])), (h1, .inl (T 0, 115, .inl (zA (zmix 115 (G (((asd + 6) % 7).toNat)) Z))))] ++ kRows T rw 7 115 (gup G (((asd + 6) % 7).toNat) (G (((asd + 6) % 7).toNat)))) := by rw [← kRows_set (X := [(hh, .inr (1, [.ref st, .int (iz ((asd + 6) % 7)), .int (iz (len - 1))])), (st, .inl (T 1, 7, .inr (.inr (.inr (.inr (fun i => some (rw i))))))), (h0, .inr (2, [.ref h1, .int (iz (ve + 1))])), (h1, .inl (T 0, 115, .inl (zA (zmix 115 (G (((asd + 6) % 7).toNat)) Z))))])]; exact hD
    have hP : va_P D vwCl ([(hh, .inr (1, [.ref st, .int (iz ((asd + 6) % 7)), .int (iz (len - 1))])), (st, .inl (T 1, 7, .inr (.inr (.inr (.inr (fun i => some (rw i))))))), (h0, .inr (2, [.ref h1, .int (iz (ve + 1))])), (h1, .inl (T 0, 115, .inl (zA (zmix 115 (G (((asd + 6) % 7).toNat)) Z))))] ++ kRows T rw 7 115 (gup G (((asd + 6) % 7).toNat) (G (((asd + 6) % 7).toNat)))) H := hP
    have hD : va_D A ([(hh, .inr (1, [.ref st, .int (iz ((asd + 6) % 7)), .int (iz (len - 1))])), (st, .inl (T 1, 7, .inr (.inr (.inr (.inr (fun i => some (rw i))))))), (h0, .inr (2, [.ref h1, .int (iz (ve + 1))])), (h1, .inl (T 0, 115, .inl (zA (zmix 115 (G (((asd + 6) % 7).toNat)) Z))))] ++ kRows T rw 7 115 (gup G (((asd + 6) % 7).toNat) (G (((asd + 6) % 7).toNat)))) := hD
    refine lv_aload_n hx hb dX1_takeBack_65 rfl (lv_at hl 0 rfl) ?_
    refine va_get (D := D) (ci := 1) (C := RX1) (T := TX1) (N := 3) hx hb hts w1 hown hK.1 hP 0 rfl rfl 2 (by decide) w0 (fun _ h9 => h9) rfl dX1_takeBack_66 ?_
    have hZ : ((asd + 6) % 7 : Int) = if len = 0 then asd else (asd + 6) % 7 := (by split <;> omega)
    have hP : va_P D vwCl ([(hh, .inr (1, [.ref st, .int (iz (if len = 0 then asd else (asd + 6) % 7)), .int (iz (len - 1))])), (st, .inl (T 1, 7, .inr (.inr (.inr (.inr (fun i => some (rw i))))))), (h0, .inr (2, [.ref h1, .int (iz (ve + 1))])), (h1, .inl (T 0, 115, .inl (zA (zmix 115 (G (((asd + 6) % 7).toNat)) Z))))] ++ kRows T rw 7 115 (gup G (((asd + 6) % 7).toNat) (G (((asd + 6) % 7).toNat)))) H := by rw [← hZ]; exact hP
    have hD : va_D A ([(hh, .inr (1, [.ref st, .int (iz (if len = 0 then asd else (asd + 6) % 7)), .int (iz (len - 1))])), (st, .inl (T 1, 7, .inr (.inr (.inr (.inr (fun i => some (rw i))))))), (h0, .inr (2, [.ref h1, .int (iz (ve + 1))])), (h1, .inl (T 0, 115, .inl (zA (zmix 115 (G (((asd + 6) % 7).toNat)) Z))))] ++ kRows T rw 7 115 (gup G (((asd + 6) % 7).toNat) (G (((asd + 6) % 7).toNat)))) := by rw [← hZ]; exact hD
    have hZ : (len - 1 : Int) = if len = 0 then len else len - 1 := (by split <;> omega)
    have hP : va_P D vwCl ([(hh, .inr (1, [.ref st, .int (iz (if len = 0 then asd else (asd + 6) % 7)), .int (iz (if len = 0 then len else len - 1))])), (st, .inl (T 1, 7, .inr (.inr (.inr (.inr (fun i => some (rw i))))))), (h0, .inr (2, [.ref h1, .int (iz (ve + 1))])), (h1, .inl (T 0, 115, .inl (zA (zmix 115 (G (((asd + 6) % 7).toNat)) Z))))] ++ kRows T rw 7 115 (gup G (((asd + 6) % 7).toNat) (G (((asd + 6) % 7).toNat)))) H := by rw [← hZ]; exact hP
    have hD : va_D A ([(hh, .inr (1, [.ref st, .int (iz (if len = 0 then asd else (asd + 6) % 7)), .int (iz (if len = 0 then len else len - 1))])), (st, .inl (T 1, 7, .inr (.inr (.inr (.inr (fun i => some (rw i))))))), (h0, .inr (2, [.ref h1, .int (iz (ve + 1))])), (h1, .inl (T 0, 115, .inl (zA (zmix 115 (G (((asd + 6) % 7).toNat)) Z))))] ++ kRows T rw 7 115 (gup G (((asd + 6) % 7).toNat) (G (((asd + 6) % 7).toNat)))) := by rw [← hZ]; exact hD
    have hZ : (ve + 1 : Int) = if len = 0 then ve else ve + 1 := (by split <;> omega)
    have hP : va_P D vwCl ([(hh, .inr (1, [.ref st, .int (iz (if len = 0 then asd else (asd + 6) % 7)), .int (iz (if len = 0 then len else len - 1))])), (st, .inl (T 1, 7, .inr (.inr (.inr (.inr (fun i => some (rw i))))))), (h0, .inr (2, [.ref h1, .int (iz (if len = 0 then ve else ve + 1))])), (h1, .inl (T 0, 115, .inl (zA (zmix 115 (G (((asd + 6) % 7).toNat)) Z))))] ++ kRows T rw 7 115 (gup G (((asd + 6) % 7).toNat) (G (((asd + 6) % 7).toNat)))) H := by rw [← hZ]; exact hP
    have hD : va_D A ([(hh, .inr (1, [.ref st, .int (iz (if len = 0 then asd else (asd + 6) % 7)), .int (iz (if len = 0 then len else len - 1))])), (st, .inl (T 1, 7, .inr (.inr (.inr (.inr (fun i => some (rw i))))))), (h0, .inr (2, [.ref h1, .int (iz (if len = 0 then ve else ve + 1))])), (h1, .inl (T 0, 115, .inl (zA (zmix 115 (G (((asd + 6) % 7).toNat)) Z))))] ++ kRows T rw 7 115 (gup G (((asd + 6) % 7).toNat) (G (((asd + 6) % 7).toNat)))) := by rw [← hZ]; exact hD
    have hZ : (zmix 115 (G (((asd + 6) % 7).toNat)) Z : Nat → Int) = if len = 0 then Z else zmix 115 (G ((asd + 6) % 7).toNat) Z := (by split <;> first | rfl | omega)
    have hP : va_P D vwCl ([(hh, .inr (1, [.ref st, .int (iz (if len = 0 then asd else (asd + 6) % 7)), .int (iz (if len = 0 then len else len - 1))])), (st, .inl (T 1, 7, .inr (.inr (.inr (.inr (fun i => some (rw i))))))), (h0, .inr (2, [.ref h1, .int (iz (if len = 0 then ve else ve + 1))])), (h1, .inl (T 0, 115, .inl (zA (if len = 0 then Z else zmix 115 (G ((asd + 6) % 7).toNat) Z))))] ++ kRows T rw 7 115 (gup G (((asd + 6) % 7).toNat) (G (((asd + 6) % 7).toNat)))) H := by rw [← hZ]; exact hP
    have hD : va_D A ([(hh, .inr (1, [.ref st, .int (iz (if len = 0 then asd else (asd + 6) % 7)), .int (iz (if len = 0 then len else len - 1))])), (st, .inl (T 1, 7, .inr (.inr (.inr (.inr (fun i => some (rw i))))))), (h0, .inr (2, [.ref h1, .int (iz (if len = 0 then ve else ve + 1))])), (h1, .inl (T 0, 115, .inl (zA (if len = 0 then Z else zmix 115 (G ((asd + 6) % 7).toNat) Z))))] ++ kRows T rw 7 115 (gup G (((asd + 6) % 7).toNat) (G (((asd + 6) % 7).toNat)))) := by rw [← hZ]; exact hD
    have hZ : (gup G (((asd + 6) % 7).toNat) (G (((asd + 6) % 7).toNat)) : Nat → Nat → Int) = G := (gup_id _ _)
    have hP : va_P D vwCl ([(hh, .inr (1, [.ref st, .int (iz (if len = 0 then asd else (asd + 6) % 7)), .int (iz (if len = 0 then len else len - 1))])), (st, .inl (T 1, 7, .inr (.inr (.inr (.inr (fun i => some (rw i))))))), (h0, .inr (2, [.ref h1, .int (iz (if len = 0 then ve else ve + 1))])), (h1, .inl (T 0, 115, .inl (zA (if len = 0 then Z else zmix 115 (G ((asd + 6) % 7).toNat) Z))))] ++ kRows T rw 7 115 G) H := by rw [hZ] at hP; exact hP
    exact W.iret hx hb hr (fun t ht hW => ⟨⟨_, (), rfl, (congrArg iz (by split <;> omega)), by show va_P _ _ _ t.heap; rw [ht]; exact hP⟩, hS.F ht⟩) hS.2.2 dX1_takeBack_69
  · refine lv_bipush (v := iz (-5)) hx hb dX1_takeBack_7 (by decide) ?_
    have hZ : (asd : Int) = if len = 0 then asd else (asd + 6) % 7 := (by split <;> omega)
    have hP : va_P D vwCl ([(hh, .inr (1, [.ref st, .int (iz (if len = 0 then asd else (asd + 6) % 7)), .int (iz (len))])), (st, .inl (T 1, 7, .inr (.inr (.inr (.inr (fun i => some (rw i))))))), (h0, .inr (2, [.ref h1, .int (iz (ve))])), (h1, .inl (T 0, 115, .inl (zA Z)))] ++ kRows T rw 7 115 G) s.heap := by rw [← hZ]; exact hP
    have hD : va_D A ([(hh, .inr (1, [.ref st, .int (iz (if len = 0 then asd else (asd + 6) % 7)), .int (iz (len))])), (st, .inl (T 1, 7, .inr (.inr (.inr (.inr (fun i => some (rw i))))))), (h0, .inr (2, [.ref h1, .int (iz (ve))])), (h1, .inl (T 0, 115, .inl (zA Z)))] ++ kRows T rw 7 115 G) := by rw [← hZ]; exact hD
    have hZ : (len : Int) = if len = 0 then len else len - 1 := (by split <;> omega)
    have hP : va_P D vwCl ([(hh, .inr (1, [.ref st, .int (iz (if len = 0 then asd else (asd + 6) % 7)), .int (iz (if len = 0 then len else len - 1))])), (st, .inl (T 1, 7, .inr (.inr (.inr (.inr (fun i => some (rw i))))))), (h0, .inr (2, [.ref h1, .int (iz (ve))])), (h1, .inl (T 0, 115, .inl (zA Z)))] ++ kRows T rw 7 115 G) s.heap := by rw [← hZ]; exact hP
    have hD : va_D A ([(hh, .inr (1, [.ref st, .int (iz (if len = 0 then asd else (asd + 6) % 7)), .int (iz (if len = 0 then len else len - 1))])), (st, .inl (T 1, 7, .inr (.inr (.inr (.inr (fun i => some (rw i))))))), (h0, .inr (2, [.ref h1, .int (iz (ve))])), (h1, .inl (T 0, 115, .inl (zA Z)))] ++ kRows T rw 7 115 G) := by rw [← hZ]; exact hD
    have hZ : (ve : Int) = if len = 0 then ve else ve + 1 := (by split <;> omega)
    have hP : va_P D vwCl ([(hh, .inr (1, [.ref st, .int (iz (if len = 0 then asd else (asd + 6) % 7)), .int (iz (if len = 0 then len else len - 1))])), (st, .inl (T 1, 7, .inr (.inr (.inr (.inr (fun i => some (rw i))))))), (h0, .inr (2, [.ref h1, .int (iz (if len = 0 then ve else ve + 1))])), (h1, .inl (T 0, 115, .inl (zA Z)))] ++ kRows T rw 7 115 G) s.heap := by rw [← hZ]; exact hP
    have hD : va_D A ([(hh, .inr (1, [.ref st, .int (iz (if len = 0 then asd else (asd + 6) % 7)), .int (iz (if len = 0 then len else len - 1))])), (st, .inl (T 1, 7, .inr (.inr (.inr (.inr (fun i => some (rw i))))))), (h0, .inr (2, [.ref h1, .int (iz (if len = 0 then ve else ve + 1))])), (h1, .inl (T 0, 115, .inl (zA Z)))] ++ kRows T rw 7 115 G) := by rw [← hZ]; exact hD
    have hZ : (Z : Nat → Int) = if len = 0 then Z else zmix 115 (G ((asd + 6) % 7).toNat) Z := (by split <;> first | rfl | omega)
    have hP : va_P D vwCl ([(hh, .inr (1, [.ref st, .int (iz (if len = 0 then asd else (asd + 6) % 7)), .int (iz (if len = 0 then len else len - 1))])), (st, .inl (T 1, 7, .inr (.inr (.inr (.inr (fun i => some (rw i))))))), (h0, .inr (2, [.ref h1, .int (iz (if len = 0 then ve else ve + 1))])), (h1, .inl (T 0, 115, .inl (zA (if len = 0 then Z else zmix 115 (G ((asd + 6) % 7).toNat) Z))))] ++ kRows T rw 7 115 G) s.heap := by rw [← hZ]; exact hP
    have hD : va_D A ([(hh, .inr (1, [.ref st, .int (iz (if len = 0 then asd else (asd + 6) % 7)), .int (iz (if len = 0 then len else len - 1))])), (st, .inl (T 1, 7, .inr (.inr (.inr (.inr (fun i => some (rw i))))))), (h0, .inr (2, [.ref h1, .int (iz (if len = 0 then ve else ve + 1))])), (h1, .inl (T 0, 115, .inl (zA (if len = 0 then Z else zmix 115 (G ((asd + 6) % 7).toNat) Z))))] ++ kRows T rw 7 115 G) := by rw [← hZ]; exact hD
    exact W.iret hx hb hr (fun t ht hW => ⟨⟨_, (), rfl, (congrArg iz (by split <;> omega)), by show va_P _ _ _ t.heap; rw [ht]; exact hP⟩, hS.F ht⟩) hS.2.2 dX1_takeBack_9
