set_option maxHeartbeats 4000000 in
set_option maxRecDepth 100000 in
theorem c_X6_copyRow (l : Launch) (D : va_G) (T : Nat → ClassId) (sz : Nat) (b0 : Nat) (n0 : Nat) (F : Nat → Int) (a1 : Nat) (n1 : Nat) (G : Nat → Int) (hb1 : b0 < sz) (hb2 : b0 ≠ a1) (hn0 : n0 ≤ 1000) (hn1 : n1 ≤ 1000) : Met l yX6_copyRow wsX6_copyRow ({ frames := 1, cells := 0, slots := 0, locals := 60 }) (kPcX D T [.ref b0, .ref a1] b0 n0 F (kW D sz [(a1, .inl (T 0, n1, .inl (zA G)))])) (va_Qv (fun (u : Unit) => True) (fun (u : Unit) (t : State) => va_P D vwCl [(a1, .inl (T 0, n1, .inl (zA (zmix (min n0 n1) F G))))] t.heap) (va_A [(a1, .inl (T 0, n1, .inl (zA G)))] sz)) 0 0 (va_A [(a1, .inl (T 0, n1, .inl (zA G)))] sz) := by
  refine Met.ofW (cc := cX6_copyRow) (maxL := 2) (ret := none) (by decide) rfl ?_
  intro p e s m args below meth c s₁ B hml hv
  obtain ⟨rfl, hK, hX, hsz, hP, hD0⟩ := hv
  have hx := B.exec
  have hb := B.bytes
  have hr := B.returns
  have hts := atoms_spec (ws := wsX6_copyRow) B.pre
  have hown : s.vm.findClass RX6 = some m.cls := findClass_of_methodNamed B.named
  have hlocks := B.notSynchronized
  have w0 := hts (.methodLink RX6 257 Lib.Math.min.name) (List.mem_of_getElem? (i := 1) rfl)
  have w1 := hts (.static Lib.Math.min.name) (List.mem_of_getElem? (i := 2) rfl)
  have w2 := hts (.initialized "java/lang/Math") (List.mem_of_getElem? (i := 3) rfl)
  have w3 := hts (.code Lib.Math.min.name Lib.Math.min.code 2 (some .int)) (List.mem_of_getElem? (i := 4) rfl)
  have w4 := hts (.methodLink RX6 262 arraycopyName) (List.mem_of_getElem? (i := 5) rfl)
  have w5 := hts (.native arraycopyName) (List.mem_of_getElem? (i := 6) rfl)
  have w6 := hts (.static arraycopyName) (List.mem_of_getElem? (i := 7) rfl)
  have w7 := hts (.initialized "java/lang/System") (List.mem_of_getElem? (i := 8) rfl)
  subst hsz
  have hD := hD0.self (sz := s.heap.size)
  have hbA : ¬ va_A [(a1, .inl (T 0, n1, .inl (zA G)))] s.heap.size b0 := by
    rintro (⟨k9, e9, hk9⟩ | h9)
    · have h9 : k9 < 1 := (List.getElem?_eq_some_iff.mp hk9).1
      rw [show k9 = 0 by omega] at hk9
      exact hb2 (congrArg Prod.fst (Option.some.inj hk9)).symm
    · omega
  generalize hAe : va_A [(a1, .inl (T 0, n1, .inl (zA G)))] s.heap.size = A at hD hbA ⊢
  have hA : ∀ q : Nat, s.heap.size ≤ q → A q := fun q h => by rw [← hAe]; exact Or.inr h
  have hS : va_S A s.heap s.heap [] := va_S.rf
  have hP : va_P D vwCl [(a1, .inl (T 0, n1, .inl (zA G)))] s.heap := hP
  have hl := lv_entry ([.ref b0, .ref a1]) (n := 2) (Nat.le_of_ble_eq_true rfl)
  rw [lg_entry_eq]
  generalize (lg_sl ([.ref b0, .ref a1]) ++ List.replicate (2 - (lg_sl ([.ref b0, .ref a1])).length) Slot.unset).toArray = ls at hl ⊢
  have hl : lv_has ls 2 [(0, .ref b0), (1, .ref a1)] := hl
  refine lv_aload_n hx hb dX6_copyRow_0 rfl (lv_at hl 0 rfl) ?_
  refine lv_iconst (v := iz (0)) hx hb dX6_copyRow_1 (by decide) ?_
  refine lv_aload_n hx hb dX6_copyRow_2 rfl (lv_at hl 1 rfl) ?_
  refine lv_iconst (v := iz (0)) hx hb dX6_copyRow_3 (by decide) ?_
  refine lv_aload_n hx hb dX6_copyRow_4 rfl (lv_at hl 0 rfl) ?_
  refine va_slen hx hb hX hb1 hbA hS dX6_copyRow_5 ?_
  refine k_top (y := iz ((n0 : Nat) : Int)) (iz_nI _).symm ?_
  refine lv_aload_n hx hb dX6_copyRow_6 rfl (lv_at hl 1 rfl) ?_
  refine va_alen (v := iz ((n1 : Nat) : Int)) hx hb hK.1 hP 0 0 rfl rfl (by rw [iz_nI]; rfl) dX6_copyRow_7 ?_
  refine kz_mmin hx hb (by rw [hml]; exact hl.1.symm) hown w0 w1 w2 w3 (Nat.le_of_ble_eq_true rfl) (Nat.le_of_ble_eq_true rfl) (Nat.zero_le _) (Nat.zero_le _) (by omega) (by omega) dX6_copyRow_8 ?_
  refine kz_top (y := ((min n0 n1 : Nat) : Int)) (by omega) ?_
  refine k_copyX hx hb (by rw [hml]; exact hl.1.symm) hown w4 w5 w6 w7 hK hP hD hS hX hb1 hbA 0 rfl (min n0 n1) (by omega) (by omega) (by omega) (Nat.le_of_ble_eq_true rfl) (by decide) dX6_copyRow_11 (fun H locs hP hD hS => ?_)
  have hP : va_P D vwCl [(a1, .inl (T 0, n1, .inl (zA (zmix (min n0 n1) F G))))] H := hP
  have hD : va_D A [(a1, .inl (T 0, n1, .inl (zA (zmix (min n0 n1) F G))))] := hD
  exact W.vret hx hb hr (fun t ht hW => ⟨⟨(), rfl, trivial, by show va_P _ _ _ t.heap; rw [ht]; exact hP⟩, hS.F ht⟩) hS.2.2 dX6_copyRow_14
set_option maxHeartbeats 4000000 in
set_option maxRecDepth 100000 in
theorem c_X2_copyTo (l : Launch) (D : va_G) (T : Nat → ClassId) (sz : Nat) (h0 : Nat) (h1 : Nat) (Z : Nat → Int) (ve : Int) (a1 : Nat) (G : Nat → Int) : Met l yX2_copyTo wsX2_copyTo ({ frames := 2, cells := 0, slots := 0, locals := 81 }) (kPc D T [.ref h0, .ref a1] (kW D sz [(h0, .inr (2, [.ref h1, .int (iz (ve))])), (h1, .inl (T 0, 115, .inl (zA Z))), (a1, .inl (T 0, 115, .inl (zA G)))])) (va_Qv (fun (u : Unit) => True) (fun (u : Unit) (t : State) => va_P D vwCl [(h0, .inr (2, [.ref h1, .int (iz (ve))])), (h1, .inl (T 0, 115, .inl (zA Z))), (a1, .inl (T 0, 115, .inl (zA (zmix 115 Z G))))] t.heap) (va_A [(h0, .inr (2, [.ref h1, .int (iz (ve))])), (h1, .inl (T 0, 115, .inl (zA Z))), (a1, .inl (T 0, 115, .inl (zA G)))] sz)) 0 0 (va_A [(h0, .inr (2, [.ref h1, .int (iz (ve))])), (h1, .inl (T 0, 115, .inl (zA Z))), (a1, .inl (T 0, 115, .inl (zA G)))] sz) := by
  refine Met.ofW (cc := cX2_copyTo) (maxL := 2) (ret := none) (by decide) rfl ?_
  intro p e s m args below meth c s₁ B hml hv
  obtain ⟨rfl, hK, hsz, hP, hD0⟩ := hv
  have hx := B.exec
  have hb := B.bytes
  have hr := B.returns
  have hts := atoms_spec (ws := wsX2_copyTo) B.pre
  have hown : s.vm.findClass RX2 = some m.cls := findClass_of_methodNamed B.named
  have hlocks := B.notSynchronized
  have w0 := hts (.fieldLink RX2 11 "LakePlant$Lake" "cells" "[I") (List.mem_of_getElem? (i := 1) rfl)
  have w1 : ∀ w ∈ wsX20, w ∈ wsX2_copyTo := by decide +kernel
  have w2 := hts (.initialized RX6) (List.mem_of_getElem? (i := 3) rfl)
  have w3 := hts (.static yX6_copyRow) (List.mem_of_getElem? (i := 2) rfl)
  subst hsz
  have hD := hD0.self (sz := s.heap.size)
  generalize hAe : va_A [(h0, .inr (2, [.ref h1, .int (iz (ve))])), (h1, .inl (T 0, 115, .inl (zA Z))), (a1, .inl (T 0, 115, .inl (zA G)))] s.heap.size = A at hD ⊢
  have hA : ∀ q : Nat, s.heap.size ≤ q → A q := fun q h => by rw [← hAe]; exact Or.inr h
  have hS : va_S A s.heap s.heap [] := va_S.rf
  have hP : va_P D vwCl [(h0, .inr (2, [.ref h1, .int (iz (ve))])), (h1, .inl (T 0, 115, .inl (zA Z))), (a1, .inl (T 0, 115, .inl (zA G)))] s.heap := hP
  have hl := lv_entry ([.ref h0, .ref a1]) (n := 2) (Nat.le_of_ble_eq_true rfl)
  rw [lg_entry_eq]
  generalize (lg_sl ([.ref h0, .ref a1]) ++ List.replicate (2 - (lg_sl ([.ref h0, .ref a1])).length) Slot.unset).toArray = ls at hl ⊢
  have hl : lv_has ls 2 [(0, .ref h0), (1, .ref a1)] := hl
  refine lv_aload_n hx hb dX2_copyTo_0 rfl (lv_at hl 0 rfl) ?_
  refine va_get (D := D) (ci := 2) (C := RX2) (T := TX2) (N := 2) hx hb hts w1 hown hK.1 hP 0 rfl rfl 0 (by decide) w0 (fun _ h9 => h9) rfl dX2_copyTo_1 ?_
  refine lv_aload_n hx hb dX2_copyTo_4 rfl (lv_at hl 1 rfl) ?_
  refine kc_wv (va_runSN (As := [.ref h1, .ref a1]) (rest := []) ⟨hx, hb, hml, hown, hts⟩ (c_X6_copyRow l D T s.heap.size h1 115 Z a1 115 G ((hP 1 _ rfl).lt) (fun e => absurd (hD.1 1 2 _ _ rfl rfl e) (by omega)) (by omega) (by omega)) ⟨va_cnB 2 hts gX2_copyTo_X6_copyRow_n22 rfl rfl rfl (kn_RX2_22 hK) w2 (by decide +kernel) ⟨Nat.le_of_ble_eq_true rfl, Nat.le_of_ble_eq_true rfl⟩, w3, trivial⟩ (kPcX.s hK (va_X.world hK hP (q0 := 1) rfl) (kW.cut hP hD [2] rfl (by rfl))) rfl rfl hl.1 rfl (lv_room (Nat.le_of_ble_eq_true rfl)) dX2_copyTo_5 ⟨Nat.zero_le _, Nat.zero_le _⟩) hP hD hS hA [2] rfl (fun _ => rfl) (fun u H locs hr1 hP hD hS => ?_)
  have hP : va_P D vwCl [(h0, .inr (2, [.ref h1, .int (iz (ve))])), (h1, .inl (T 0, 115, .inl (zA Z))), (a1, .inl (T 0, 115, .inl (zA (zmix (min 115 115) Z G))))] H := hP
  have hD : va_D A [(h0, .inr (2, [.ref h1, .int (iz (ve))])), (h1, .inl (T 0, 115, .inl (zA Z))), (a1, .inl (T 0, 115, .inl (zA (zmix (min 115 115) Z G))))] := hD
  have hZ : (zmix (min 115 115) Z G : Nat → Int) = zmix 115 Z G := rfl
  have hP : va_P D vwCl [(h0, .inr (2, [.ref h1, .int (iz (ve))])), (h1, .inl (T 0, 115, .inl (zA Z))), (a1, .inl (T 0, 115, .inl (zA (zmix 115 Z G))))] H := by rw [← hZ]; exact hP
  have hD : va_D A [(h0, .inr (2, [.ref h1, .int (iz (ve))])), (h1, .inl (T 0, 115, .inl (zA Z))), (a1, .inl (T 0, 115, .inl (zA (zmix 115 Z G))))] := by rw [← hZ]; exact hD
  exact W.vret hx hb hr (fun t ht hW => ⟨⟨(), rfl, trivial, by show va_P _ _ _ t.heap; rw [ht]; exact hP⟩, hS.F ht⟩) hS.2.2 dX2_copyTo_8
set_option maxHeartbeats 4000000 in
set_option maxRecDepth 100000 in
theorem c_X2_copyFrom (l : Launch) (D : va_G) (T : Nat → ClassId) (sz : Nat) (h0 : Nat) (h1 : Nat) (Z : Nat → Int) (ve : Int) (a1 : Nat) (G : Nat → Int) : Met l yX2_copyFrom wsX2_copyFrom ({ frames := 2, cells := 0, slots := 0, locals := 81 }) (kPc D T [.ref h0, .ref a1] (kW D sz [(h0, .inr (2, [.ref h1, .int (iz (ve))])), (h1, .inl (T 0, 115, .inl (zA Z))), (a1, .inl (T 0, 115, .inl (zA G)))])) (va_Qv (fun (u : Unit) => True) (fun (u : Unit) (t : State) => va_P D vwCl [(h0, .inr (2, [.ref h1, .int (iz (ve + 1))])), (h1, .inl (T 0, 115, .inl (zA (zmix 115 G Z)))), (a1, .inl (T 0, 115, .inl (zA G)))] t.heap) (va_A [(h0, .inr (2, [.ref h1, .int (iz (ve))])), (h1, .inl (T 0, 115, .inl (zA Z))), (a1, .inl (T 0, 115, .inl (zA G)))] sz)) 0 0 (va_A [(h0, .inr (2, [.ref h1, .int (iz (ve))])), (h1, .inl (T 0, 115, .inl (zA Z))), (a1, .inl (T 0, 115, .inl (zA G)))] sz) := by
  refine Met.ofW (cc := cX2_copyFrom) (maxL := 2) (ret := none) (by decide) rfl ?_
  intro p e s m args below meth c s₁ B hml hv
  obtain ⟨rfl, hK, hsz, hP, hD0⟩ := hv
  have hx := B.exec
  have hb := B.bytes
  have hr := B.returns
  have hts := atoms_spec (ws := wsX2_copyFrom) B.pre
  have hown : s.vm.findClass RX2 = some m.cls := findClass_of_methodNamed B.named
  have hlocks := B.notSynchronized
  have w0 := hts (.fieldLink RX2 11 "LakePlant$Lake" "cells" "[I") (List.mem_of_getElem? (i := 1) rfl)
  have w1 : ∀ w ∈ wsX20, w ∈ wsX2_copyFrom := by decide +kernel
  have w2 := hts (.initialized RX6) (List.mem_of_getElem? (i := 4) rfl)
  have w3 := hts (.static yX6_copyRow) (List.mem_of_getElem? (i := 3) rfl)
  have w4 := hts (.fieldLink RX2 15 "LakePlant$Lake" "version" "I") (List.mem_of_getElem? (i := 2) rfl)
  subst hsz
  have hD := hD0.self (sz := s.heap.size)
  generalize hAe : va_A [(h0, .inr (2, [.ref h1, .int (iz (ve))])), (h1, .inl (T 0, 115, .inl (zA Z))), (a1, .inl (T 0, 115, .inl (zA G)))] s.heap.size = A at hD ⊢
  have hA : ∀ q : Nat, s.heap.size ≤ q → A q := fun q h => by rw [← hAe]; exact Or.inr h
  have hS : va_S A s.heap s.heap [] := va_S.rf
  have hP : va_P D vwCl [(h0, .inr (2, [.ref h1, .int (iz (ve))])), (h1, .inl (T 0, 115, .inl (zA Z))), (a1, .inl (T 0, 115, .inl (zA G)))] s.heap := hP
  have hl := lv_entry ([.ref h0, .ref a1]) (n := 2) (Nat.le_of_ble_eq_true rfl)
  rw [lg_entry_eq]
  generalize (lg_sl ([.ref h0, .ref a1]) ++ List.replicate (2 - (lg_sl ([.ref h0, .ref a1])).length) Slot.unset).toArray = ls at hl ⊢
  have hl : lv_has ls 2 [(0, .ref h0), (1, .ref a1)] := hl
  refine lv_aload_n hx hb dX2_copyFrom_0 rfl (lv_at hl 1 rfl) ?_
  refine lv_aload_n hx hb dX2_copyFrom_1 rfl (lv_at hl 0 rfl) ?_
  refine va_get (D := D) (ci := 2) (C := RX2) (T := TX2) (N := 2) hx hb hts w1 hown hK.1 hP 0 rfl rfl 0 (by decide) w0 (fun _ h9 => h9) rfl dX2_copyFrom_2 ?_
  refine kc_wv (va_runSN (As := [.ref a1, .ref h1]) (rest := []) ⟨hx, hb, hml, hown, hts⟩ (c_X6_copyRow l D T s.heap.size a1 115 G h1 115 Z ((hP 2 _ rfl).lt) (fun e => absurd (hD.1 2 1 _ _ rfl rfl e) (by omega)) (by omega) (by omega)) ⟨va_cnB 2 hts gX2_copyFrom_X6_copyRow_n22 rfl rfl rfl (kn_RX2_22 hK) w2 (by decide +kernel) ⟨Nat.le_of_ble_eq_true rfl, Nat.le_of_ble_eq_true rfl⟩, w3, trivial⟩ (kPcX.s hK (va_X.world hK hP (q0 := 2) rfl) (kW.cut hP hD [1] rfl (by rfl))) rfl rfl hl.1 rfl (lv_room (Nat.le_of_ble_eq_true rfl)) dX2_copyFrom_5 ⟨Nat.zero_le _, Nat.zero_le _⟩) hP hD hS hA [1] rfl (fun _ => rfl) (fun u H locs hr1 hP hD hS => ?_)
  have hP : va_P D vwCl [(h0, .inr (2, [.ref h1, .int (iz (ve))])), (h1, .inl (T 0, 115, .inl (zA (zmix (min 115 115) G Z)))), (a1, .inl (T 0, 115, .inl (zA G)))] H := hP
  have hD : va_D A [(h0, .inr (2, [.ref h1, .int (iz (ve))])), (h1, .inl (T 0, 115, .inl (zA (zmix (min 115 115) G Z)))), (a1, .inl (T 0, 115, .inl (zA G)))] := hD
  refine lv_aload_n hx hb dX2_copyFrom_8 rfl (lv_at hl 0 rfl) ?_
  refine lv_dup hx hb dX2_copyFrom_9 rfl ?_
  refine va_get (D := D) (ci := 2) (C := RX2) (T := TX2) (N := 2) hx hb hts w1 hown hK.1 hP 0 rfl rfl 1 (by decide) w4 (fun _ h9 => h9) rfl dX2_copyFrom_10 ?_
  refine lv_iconst (v := iz (1)) hx hb dX2_copyFrom_13 (by decide) ?_
  refine kz_add hx hb dX2_copyFrom_14 ?_
  refine va_put (D := D) (ci := 2) (v := .int (iz (ve + 1))) (ty := .int) (C := RX2) (T := TX2) (N := 2) hx hb hts w1 tyX2 tyX2_ok nmX2 hown hK.1 hP hD hS 0 rfl rfl 1 (by decide) w4 (fun _ h9 => h9) rfl (by decide +kernel) rfl rfl (Nat.le_of_ble_eq_true rfl) dX2_copyFrom_15 (fun H locs hP hD hS => ?_)
  have hP : va_P D vwCl [(h0, .inr (2, [.ref h1, .int (iz (ve + 1))])), (h1, .inl (T 0, 115, .inl (zA (zmix (min 115 115) G Z)))), (a1, .inl (T 0, 115, .inl (zA G)))] H := hP
  have hD : va_D A [(h0, .inr (2, [.ref h1, .int (iz (ve + 1))])), (h1, .inl (T 0, 115, .inl (zA (zmix (min 115 115) G Z)))), (a1, .inl (T 0, 115, .inl (zA G)))] := hD
  have hZ : (zmix (min 115 115) G Z : Nat → Int) = zmix 115 G Z := rfl
  have hP : va_P D vwCl [(h0, .inr (2, [.ref h1, .int (iz (ve + 1))])), (h1, .inl (T 0, 115, .inl (zA (zmix 115 G Z)))), (a1, .inl (T 0, 115, .inl (zA G)))] H := by rw [← hZ]; exact hP
  have hD : va_D A [(h0, .inr (2, [.ref h1, .int (iz (ve + 1))])), (h1, .inl (T 0, 115, .inl (zA (zmix 115 G Z)))), (a1, .inl (T 0, 115, .inl (zA G)))] := by rw [← hZ]; exact hD
  exact W.vret hx hb hr (fun t ht hW => ⟨⟨(), rfl, trivial, by show va_P _ _ _ t.heap; rw [ht]; exact hP⟩, hS.F ht⟩) hS.2.2 dX2_copyFrom_18
set_option maxHeartbeats 4000000 in
set_option maxRecDepth 100000 in
theorem c_X6_sumOf (l : Launch) (D : va_G) (T : Nat → ClassId) (a1 : Nat) (G : Nat → Int) : Met l yX6_sumOf wsX6_sumOf ({ frames := 0, cells := 0, slots := 0, locals := 0 }) (kPc D T [.ref a1] (va_P D vwCl [(a1, .inl (T 0, 24, .inl (zA G)))])) (vp_Si (fun r : Int32 => r = iz (zsum G 24))) 0 0 (fun _ => False) := by
  refine Met.ofW (cc := cX6_sumOf) (maxL := 3) (ret := (some .int)) (by decide) rfl ?_
  intro p e s m args below meth c s₁ B hml hv
  obtain ⟨rfl, hK, hP⟩ := hv
  have hx := B.exec
  have hb := B.bytes
  have hr := B.returns
  have hts := atoms_spec (ws := wsX6_sumOf) B.pre
  have hown : s.vm.findClass RX6 = some m.cls := findClass_of_methodNamed B.named
  have hlocks := B.notSynchronized
  have hP : va_P D vwCl [(a1, .inl (T 0, 24, .inl (zA G)))] s.heap := hP
  have hl := lv_entry ([.ref a1]) (n := 3) (Nat.le_of_ble_eq_true rfl)
  rw [lg_entry_eq]
  generalize (lg_sl ([.ref a1]) ++ List.replicate (3 - (lg_sl ([.ref a1])).length) Slot.unset).toArray = ls at hl ⊢
  have hl : lv_has ls 3 [(0, .ref a1)] := hl
  refine lv_iconst (v := iz (0)) hx hb dX6_sumOf_0 (by decide) ?_
  refine lv_istore_n (lv' := [(1, .int (iz (0))), (0, .ref a1)]) hx hb dX6_sumOf_1 rfl hl (by decide) rfl (fun ls hl => ?_)
  refine lv_iconst (v := iz (0)) hx hb dX6_sumOf_2 (by decide) ?_
  refine lv_istore_n (lv' := [(2, .int (iz (0))), (1, .int (iz (0))), (0, .ref a1)]) hx hb dX6_sumOf_3 rfl hl (by decide) rfl (fun ls hl => ?_)
  have hl : lv_has ls 3 [(2, .int (iz (0))), (1, .int (iz (zsum G 0))), (0, .ref a1)] := by rw [← (show (0 : Int) = zsum G 0 from rfl)]; exact hl
  have hl : lv_has ls 3 [(2, .int (iz (((0 : Nat) : Int)))), (1, .int (iz (zsum G 0))), (0, .ref a1)] := by rw [← (show (0 : Int) = ((0 : Nat) : Int) from (by first | rfl | omega))]; exact hl
  refine kz_loopR1 (pc := 4) (I := fun (n : Nat) (ls : Array Slot) => (n ≤ 24) ∧ lv_has ls 3 [(0, .ref a1), (1, .int (iz (zsum G n))), (2, .int (iz (((n : Nat) : Int))))]) (μ := fun (n : Nat) => 24 - n) 0 ⟨(by omega), lv_sub hl [2, 1, 0] rfl⟩ ?_
  rintro n ls ⟨hn, hl⟩ ih4
  refine lv_iload_n hx hb dX6_sumOf_4 rfl (lv_at hl 2 rfl) ?_
  refine lv_aload_n hx hb dX6_sumOf_5 rfl (lv_at hl 0 rfl) ?_
  refine va_alen (v := iz ((24 : Nat) : Int)) hx hb hK.1 hP 0 0 rfl rfl (by rw [iz_nI]; rfl) dX6_sumOf_6 ?_
  refine kz_icmp_ge (tgt := 22) hx hb dX6_sumOf_7 (by decide) (by omega) (by omega) (fun c7 => ?_) (fun c7 => ?_)
  · have hnn : n = 24 := by omega
    subst hnn
    have hl : lv_has ls 3 [(0, .ref a1), (1, .int (iz (zsum G 24))), (2, .int (iz (((24 : Nat) : Int))))] := hl
    refine lv_iload_n hx hb dX6_sumOf_22 rfl (lv_at hl 1 rfl) ?_
    exact W.iret hx hb hr (fun t ht _ => ⟨_, rfl, rfl, ht⟩) (fun _ h => absurd h List.not_mem_nil) dX6_sumOf_23
  · refine lv_iload_n hx hb dX6_sumOf_10 rfl (lv_at hl 1 rfl) ?_
    refine lv_aload_n hx hb dX6_sumOf_11 rfl (lv_at hl 0 rfl) ?_
    refine lv_iload_n hx hb dX6_sumOf_12 rfl (lv_at hl 2 rfl) ?_
    refine kz_iald hx hb hK hP (0) rfl (n) (by omega) (by omega) (by omega) dX6_sumOf_13 ?_
    refine kz_add hx hb dX6_sumOf_14 ?_
    refine lv_istore_n (lv' := [(1, .int (iz ((zsum G n) + (G n)))), (0, .ref a1), (2, .int (iz (((n : Nat) : Int))))]) hx hb dX6_sumOf_15 rfl hl (by decide) rfl (fun ls hl => ?_)
    refine kz_iinc (b := ((n + 1 : Nat) : Int)) (lv' := [(2, .int (iz (((n + 1 : Nat) : Int)))), (1, .int (iz ((zsum G n) + (G n)))), (0, .ref a1)]) hx hb dX6_sumOf_16 hl (k := 2) rfl (by omega) (by decide) rfl (fun ls hl => ?_)
    refine lv_goto (tgt := 4) hx hb dX6_sumOf_19 (by decide) ?_
    have hl : lv_has ls 3 [(2, .int (iz (((n + 1 : Nat) : Int)))), (1, .int (iz (zsum G (n + 1)))), (0, .ref a1)] := by rw [← (show ((zsum G n) + (G n) : Int) = zsum G (n + 1) from rfl)]; exact hl
    exact ih4 (n + 1) _ ⟨(by omega), lv_sub hl [2, 1, 0] rfl⟩ (by omega)
