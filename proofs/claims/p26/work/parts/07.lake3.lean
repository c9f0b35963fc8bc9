set_option maxHeartbeats 4000000 in
set_option maxRecDepth 100000 in
theorem c_X2_replaced (l : Launch) (D : va_G) (T : Nat → ClassId) (sz : Nat) (h0 : Nat) (h1 : Nat) (Z : Nat → Int) (ve : Int) (k : Nat) (hk : k < 115) (vv : Int) : Met l yX2_replaced wsX2_replaced ({ frames := 0, cells := 0, slots := 0, locals := 0 }) (kPc D T [.ref h0, .int (iz (((k : Nat) : Int))), .int (iz (vv))] (kW D sz [(h0, .inr (2, [.ref h1, .int (iz (ve))])), (h1, .inl (T 0, 115, .inl (zA Z)))])) (va_Qi (fun (r : Int32) (u : Unit) => r = iz (Z k)) (fun (u : Unit) (t : State) => va_P D vwCl [(h0, .inr (2, [.ref h1, .int (iz (ve))])), (h1, .inl (T 0, 115, .inl (zA (zup Z k vv))))] t.heap) (va_A [(h0, .inr (2, [.ref h1, .int (iz (ve))])), (h1, .inl (T 0, 115, .inl (zA Z)))] sz)) 0 0 (va_A [(h0, .inr (2, [.ref h1, .int (iz (ve))])), (h1, .inl (T 0, 115, .inl (zA Z)))] sz) := by
  refine Met.ofW (cc := cX2_replaced) (maxL := 4) (ret := (some .int)) (by decide) rfl ?_
  intro p e s m args below meth c s₁ B hml hv
  obtain ⟨rfl, hK, hsz, hP, hD0⟩ := hv
  have hx := B.exec
  have hb := B.bytes
  have hr := B.returns
  have hts := atoms_spec (ws := wsX2_replaced) B.pre
  have hown : s.vm.findClass RX2 = some m.cls := findClass_of_methodNamed B.named
  have hlocks := B.notSynchronized
  have w0 := hts (.fieldLink RX2 11 "LakePlant$Lake" "cells" "[I") (List.mem_of_getElem? (i := 1) rfl)
  have w1 : ∀ w ∈ wsX20, w ∈ wsX2_replaced := by decide +kernel
  subst hsz
  have hD := hD0.self (sz := s.heap.size)
  generalize hAe : va_A [(h0, .inr (2, [.ref h1, .int (iz (ve))])), (h1, .inl (T 0, 115, .inl (zA Z)))] s.heap.size = A at hD ⊢
  have hA : ∀ q : Nat, s.heap.size ≤ q → A q := fun q h => by rw [← hAe]; exact Or.inr h
  have hS : va_S A s.heap s.heap [] := va_S.rf
  have hP : va_P D vwCl [(h0, .inr (2, [.ref h1, .int (iz (ve))])), (h1, .inl (T 0, 115, .inl (zA Z)))] s.heap := hP
  have hl := lv_entry ([.ref h0, .int (iz (((k : Nat) : Int))), .int (iz (vv))]) (n := 4) (Nat.le_of_ble_eq_true rfl)
  rw [lg_entry_eq]
  generalize (lg_sl ([.ref h0, .int (iz (((k : Nat) : Int))), .int (iz (vv))]) ++ List.replicate (4 - (lg_sl ([.ref h0, .int (iz (((k : Nat) : Int))), .int (iz (vv))])).length) Slot.unset).toArray = ls at hl ⊢
  have hl : lv_has ls 4 [(0, .ref h0), (1, .int (iz (((k : Nat) : Int)))), (2, .int (iz (vv)))] := hl
  refine lv_iload_n hx hb dX2_replaced_0 rfl (lv_at hl 1 rfl) ?_
  refine kz_if_lt (tgt := 10) hx hb dX2_replaced_1 (by decide) (by omega) (fun c1 => False.elim (by omega)) (fun c1 => ?_)
  refine lv_iload_n hx hb dX2_replaced_4 rfl (lv_at hl 1 rfl) ?_
  refine lv_bipush (v := iz (115)) hx hb dX2_replaced_5 (by decide) ?_
  refine kz_icmp_lt (tgt := 13) hx hb dX2_replaced_7 (by decide) (by omega) (by omega) (fun c7 => ?_) (fun c7 => False.elim (by omega))
  refine lv_aload_n hx hb dX2_replaced_13 rfl (lv_at hl 0 rfl) ?_
  refine va_get (D := D) (ci := 2) (C := RX2) (T := TX2) (N := 2) hx hb hts w1 hown hK.1 hP 0 rfl rfl 0 (by decide) w0 (fun _ h9 => h9) rfl dX2_replaced_14 ?_
  refine lv_iload_n hx hb dX2_replaced_17 rfl (lv_at hl 1 rfl) ?_
  refine kz_iald hx hb hK hP (1) rfl (k) (by omega) (by omega) (by omega) dX2_replaced_18 ?_
  refine lv_istore_n (lv' := [(3, .int (iz (Z k))), (0, .ref h0), (1, .int (iz (((k : Nat) : Int)))), (2, .int (iz (vv)))]) hx hb dX2_replaced_19 rfl hl (by decide) rfl (fun ls hl => ?_)
  refine lv_aload_n hx hb dX2_replaced_20 rfl (lv_at hl 1 rfl) ?_
  refine va_get (D := D) (ci := 2) (C := RX2) (T := TX2) (N := 2) hx hb hts w1 hown hK.1 hP 0 rfl rfl 0 (by decide) w0 (fun _ h9 => h9) rfl dX2_replaced_21 ?_
  refine lv_iload_n hx hb dX2_replaced_24 rfl (lv_at hl 2 rfl) ?_
  refine lv_iload_n hx hb dX2_replaced_25 rfl (lv_at hl 3 rfl) ?_
  refine kz_iast hx hb hK hP hD hS (1) rfl (k) (by omega) (by omega) (by omega) dX2_replaced_26 (fun H locs hP hD hS => ?_)
  have hP : va_P D vwCl [(h0, .inr (2, [.ref h1, .int (iz (ve))])), (h1, .inl (T 0, 115, .inl (zA (zup Z k vv))))] H := hP
  have hD : va_D A [(h0, .inr (2, [.ref h1, .int (iz (ve))])), (h1, .inl (T 0, 115, .inl (zA (zup Z k vv))))] := hD
  refine lv_iload_n hx hb dX2_replaced_27 rfl (lv_at hl 0 rfl) ?_
  exact W.iret hx hb hr (fun t ht hW => ⟨⟨_, (), rfl, rfl, by show va_P _ _ _ t.heap; rw [ht]; exact hP⟩, hS.F ht⟩) hS.2.2 dX2_replaced_28
set_option maxHeartbeats 4000000 in
set_option maxRecDepth 100000 in
theorem c_X2_changePrice (l : Launch) (D : va_G) (T : Nat → ClassId) (sz : Nat) (h0 : Nat) (h1 : Nat) (Z : Nat → Int) (ve : Int) (a : Int) (b : Int) (hia : -2147483648 ≤ a ∧ a < 2147483648) (hib : -2147483648 ≤ b ∧ b < 2147483648) : Met l yX2_changePrice wsX2_changePrice ({ frames := 1, cells := 0, slots := 0, locals := 23 }) (kPc D T [.ref h0, .int (iz (a)), .int (iz (b))] (kW D sz [(h0, .inr (2, [.ref h1, .int (iz (ve))])), (h1, .inl (T 0, 115, .inl (zA Z)))])) (va_Qi (fun (r : Int32) (u : Unit) => r = iz (lk_rAt 10 999 Z a b)) (fun (u : Unit) (t : State) => va_P D vwCl [(h0, .inr (2, [.ref h1, .int (iz (lk_vAt 999 a b ve))])), (h1, .inl (T 0, 115, .inl (zA (lk_zAt 10 999 Z a b))))] t.heap) (va_A [(h0, .inr (2, [.ref h1, .int (iz (ve))])), (h1, .inl (T 0, 115, .inl (zA Z)))] sz)) 0 0 (va_A [(h0, .inr (2, [.ref h1, .int (iz (ve))])), (h1, .inl (T 0, 115, .inl (zA Z)))] sz) := by
  refine Met.ofW (cc := cX2_changePrice) (maxL := 3) (ret := (some .int)) (by decide) rfl ?_
  intro p e s m args below meth c s₁ B hml hv
  obtain ⟨rfl, hK, hsz, hP, hD0⟩ := hv
  have hx := B.exec
  have hb := B.bytes
  have hr := B.returns
  have hts := atoms_spec (ws := wsX2_changePrice) B.pre
  have hown : s.vm.findClass RX2 = some m.cls := findClass_of_methodNamed B.named
  have hlocks := B.notSynchronized
  have w0 := hts (.initialized RX6) (List.mem_of_getElem? (i := 3) rfl)
  have w1 := hts (.static yX6_isHour) (List.mem_of_getElem? (i := 2) rfl)
  have w2 := hts (.fieldLink RX2 15 "LakePlant$Lake" "version" "I") (List.mem_of_getElem? (i := 1) rfl)
  have w3 : ∀ w ∈ wsX20, w ∈ wsX2_changePrice := by decide +kernel
  subst hsz
  have hD := hD0.self (sz := s.heap.size)
  generalize hAe : va_A [(h0, .inr (2, [.ref h1, .int (iz (ve))])), (h1, .inl (T 0, 115, .inl (zA Z)))] s.heap.size = A at hD ⊢
  have hA : ∀ q : Nat, s.heap.size ≤ q → A q := fun q h => by rw [← hAe]; exact Or.inr h
  have hS : va_S A s.heap s.heap [] := va_S.rf
  have hP : va_P D vwCl [(h0, .inr (2, [.ref h1, .int (iz (ve))])), (h1, .inl (T 0, 115, .inl (zA Z)))] s.heap := hP
  have hl := lv_entry ([.ref h0, .int (iz (a)), .int (iz (b))]) (n := 3) (Nat.le_of_ble_eq_true rfl)
  rw [lg_entry_eq]
  generalize (lg_sl ([.ref h0, .int (iz (a)), .int (iz (b))]) ++ List.replicate (3 - (lg_sl ([.ref h0, .int (iz (a)), .int (iz (b))])).length) Slot.unset).toArray = ls at hl ⊢
  have hl : lv_has ls 3 [(0, .ref h0), (1, .int (iz (a))), (2, .int (iz (b)))] := hl
  refine lv_iload_n hx hb dX2_changePrice_0 rfl (lv_at hl 1 rfl) ?_
  refine kc_i (va_runSN (As := [.int (iz (a))]) (rest := []) ⟨hx, hb, hml, hown, hts⟩ (c_X6_isHour l D T a (by omega)) ⟨va_cnB 1 hts gX2_changePrice_X6_isHour_n51 rfl rfl rfl (kn_RX2_51 hK) w0 (by decide +kernel) ⟨Nat.le_of_ble_eq_true rfl, Nat.le_of_ble_eq_true rfl⟩, w1, trivial⟩ (kPc.s hK (kcut hP [] rfl)) rfl rfl hl.1 rfl (lv_room (Nat.le_of_ble_eq_true rfl)) dX2_changePrice_1 ⟨Nat.zero_le _, Nat.zero_le _⟩) (fun r1 hr1 => ?_)
  subst hr1
  refine kz_if_ne (tgt := 9) hx hb dX2_changePrice_4 (by decide) (by omega) (fun c4 => ?_) (fun c4 => ?_)
  · refine lv_iload_n hx hb dX2_changePrice_9 rfl (lv_at hl 2 rfl) ?_
    refine kz_if_lt (tgt := 20) hx hb dX2_changePrice_10 (by decide) (by omega) (fun c10 => ?_) (fun c10 => ?_)
    · refine lv_bipush (v := iz (-2)) hx hb dX2_changePrice_20 (by decide) ?_
      have hZ : (ve : Int) = lk_vAt 999 a b ve := (by unfold lk_vAt; split <;> omega)
      have hP : va_P D vwCl [(h0, .inr (2, [.ref h1, .int (iz (lk_vAt 999 a b ve))])), (h1, .inl (T 0, 115, .inl (zA Z)))] s.heap := by rw [← hZ]; exact hP
      have hD : va_D A [(h0, .inr (2, [.ref h1, .int (iz (lk_vAt 999 a b ve))])), (h1, .inl (T 0, 115, .inl (zA Z)))] := by rw [← hZ]; exact hD
      have hZ : (Z : Nat → Int) = lk_zAt 10 999 Z a b := (by unfold lk_zAt; split <;> first | rfl | omega)
      have hP : va_P D vwCl [(h0, .inr (2, [.ref h1, .int (iz (lk_vAt 999 a b ve))])), (h1, .inl (T 0, 115, .inl (zA (lk_zAt 10 999 Z a b))))] s.heap := by rw [← hZ]; exact hP
      have hD : va_D A [(h0, .inr (2, [.ref h1, .int (iz (lk_vAt 999 a b ve))])), (h1, .inl (T 0, 115, .inl (zA (lk_zAt 10 999 Z a b))))] := by rw [← hZ]; exact hD
      exact W.iret hx hb hr (fun t ht hW => ⟨⟨_, (), rfl, (congrArg iz (by unfold lk_rAt; split <;> (try split) <;> first | rfl | omega)), by show va_P _ _ _ t.heap; rw [ht]; exact hP⟩, hS.F ht⟩) hS.2.2 dX2_changePrice_22
    · refine lv_iload_n hx hb dX2_changePrice_13 rfl (lv_at hl 2 rfl) ?_
      refine lv_sipush (v := iz (999)) hx hb dX2_changePrice_14 (by decide) ?_
      refine kz_icmp_le (tgt := 23) hx hb dX2_changePrice_17 (by decide) (by omega) (by omega) (fun c17 => ?_) (fun c17 => ?_)
      · refine lv_aload_n hx hb dX2_changePrice_23 rfl (lv_at hl 0 rfl) ?_
        refine lv_dup hx hb dX2_changePrice_24 rfl ?_
        refine va_get (D := D) (ci := 2) (C := RX2) (T := TX2) (N := 2) hx hb hts w3 hown hK.1 hP 0 rfl rfl 1 (by decide) w2 (fun _ h9 => h9) rfl dX2_changePrice_25 ?_
        refine lv_iconst (v := iz (1)) hx hb dX2_changePrice_28 (by decide) ?_
        refine kz_add hx hb dX2_changePrice_29 ?_
        refine va_put (D := D) (ci := 2) (v := .int (iz (ve + 1))) (ty := .int) (C := RX2) (T := TX2) (N := 2) hx hb hts w3 tyX2 tyX2_ok nmX2 hown hK.1 hP hD hS 0 rfl rfl 1 (by decide) w2 (fun _ h9 => h9) rfl (by decide +kernel) rfl rfl (Nat.le_of_ble_eq_true rfl) dX2_changePrice_30 (fun H locs hP hD hS => ?_)
        have hP : va_P D vwCl [(h0, .inr (2, [.ref h1, .int (iz (ve + 1))])), (h1, .inl (T 0, 115, .inl (zA Z)))] H := hP
        have hD : va_D A [(h0, .inr (2, [.ref h1, .int (iz (ve + 1))])), (h1, .inl (T 0, 115, .inl (zA Z)))] := hD
        refine lv_aload_n hx hb dX2_changePrice_33 rfl (lv_at hl 0 rfl) ?_
        refine lv_bipush (v := iz (10)) hx hb dX2_changePrice_34 (by decide) ?_
        refine lv_iload_n hx hb dX2_changePrice_36 rfl (lv_at hl 1 rfl) ?_
        refine kz_add hx hb dX2_changePrice_37 ?_
        refine kz_top (y := ((10 + a.toNat : Nat) : Int)) (by omega) ?_
        refine lv_iload_n hx hb dX2_changePrice_38 rfl (lv_at hl 2 rfl) ?_
        refine kc_wi (va_runV (As := [.int (iz (((10 + a.toNat : Nat) : Int))), .int (iz (b))]) (rest := []) ⟨hx, hb, hml, hown, hts⟩ (c_X2_replaced l D T H.size h0 h1 Z (ve + 1) (10 + a.toNat) (by omega) b) (cwV 2 hts gX2_changePrice_X2_replaced rfl rfl rfl (by decide +kernel) ⟨Nat.le_of_ble_eq_true rfl, Nat.le_of_ble_eq_true rfl⟩) (kPc.v hK (va_recv hK.1 hP (ci := 2) (q0 := 0) rfl rfl) (kW.cut hP hD [0, 1] rfl (by rfl))) rfl rfl hl.1 rfl (lv_room (Nat.le_of_ble_eq_true rfl)) dX2_changePrice_39 ⟨Nat.zero_le _, Nat.zero_le _⟩) hP hD hS hA [0, 1] rfl (fun _ => rfl) (fun r2 u H locs hr2 hP hD hS => ?_)
        have hP : va_P D vwCl [(h0, .inr (2, [.ref h1, .int (iz ((ve + 1)))])), (h1, .inl (T 0, 115, .inl (zA (zup Z (10 + a.toNat) b))))] H := hP
        have hD : va_D A [(h0, .inr (2, [.ref h1, .int (iz ((ve + 1)))])), (h1, .inl (T 0, 115, .inl (zA (zup Z (10 + a.toNat) b))))] := hD
        subst hr2
        have hZ : ((ve + 1) : Int) = lk_vAt 999 a b ve := (by unfold lk_vAt; split <;> omega)
        have hP : va_P D vwCl [(h0, .inr (2, [.ref h1, .int (iz (lk_vAt 999 a b ve))])), (h1, .inl (T 0, 115, .inl (zA (zup Z (10 + a.toNat) b))))] H := by rw [← hZ]; exact hP
        have hD : va_D A [(h0, .inr (2, [.ref h1, .int (iz (lk_vAt 999 a b ve))])), (h1, .inl (T 0, 115, .inl (zA (zup Z (10 + a.toNat) b))))] := by rw [← hZ]; exact hD
        have hZ : (zup Z (10 + a.toNat) b : Nat → Int) = lk_zAt 10 999 Z a b := (by unfold lk_zAt; split <;> first | rfl | omega)
        have hP : va_P D vwCl [(h0, .inr (2, [.ref h1, .int (iz (lk_vAt 999 a b ve))])), (h1, .inl (T 0, 115, .inl (zA (lk_zAt 10 999 Z a b))))] H := by rw [← hZ]; exact hP
        have hD : va_D A [(h0, .inr (2, [.ref h1, .int (iz (lk_vAt 999 a b ve))])), (h1, .inl (T 0, 115, .inl (zA (lk_zAt 10 999 Z a b))))] := by rw [← hZ]; exact hD
        exact W.iret hx hb hr (fun t ht hW => ⟨⟨_, (), rfl, (congrArg iz (by unfold lk_rAt; split <;> (try split) <;> first | rfl | omega)), by show va_P _ _ _ t.heap; rw [ht]; exact hP⟩, hS.F ht⟩) hS.2.2 dX2_changePrice_42
      · refine lv_bipush (v := iz (-2)) hx hb dX2_changePrice_20 (by decide) ?_
        have hZ : (ve : Int) = lk_vAt 999 a b ve := (by unfold lk_vAt; split <;> omega)
        have hP : va_P D vwCl [(h0, .inr (2, [.ref h1, .int (iz (lk_vAt 999 a b ve))])), (h1, .inl (T 0, 115, .inl (zA Z)))] s.heap := by rw [← hZ]; exact hP
        have hD : va_D A [(h0, .inr (2, [.ref h1, .int (iz (lk_vAt 999 a b ve))])), (h1, .inl (T 0, 115, .inl (zA Z)))] := by rw [← hZ]; exact hD
        have hZ : (Z : Nat → Int) = lk_zAt 10 999 Z a b := (by unfold lk_zAt; split <;> first | rfl | omega)
        have hP : va_P D vwCl [(h0, .inr (2, [.ref h1, .int (iz (lk_vAt 999 a b ve))])), (h1, .inl (T 0, 115, .inl (zA (lk_zAt 10 999 Z a b))))] s.heap := by rw [← hZ]; exact hP
        have hD : va_D A [(h0, .inr (2, [.ref h1, .int (iz (lk_vAt 999 a b ve))])), (h1, .inl (T 0, 115, .inl (zA (lk_zAt 10 999 Z a b))))] := by rw [← hZ]; exact hD
        exact W.iret hx hb hr (fun t ht hW => ⟨⟨_, (), rfl, (congrArg iz (by unfold lk_rAt; split <;> (try split) <;> first | rfl | omega)), by show va_P _ _ _ t.heap; rw [ht]; exact hP⟩, hS.F ht⟩) hS.2.2 dX2_changePrice_22
  · refine lv_iconst (v := iz (-1)) hx hb dX2_changePrice_7 (by decide) ?_
    have hZ : (ve : Int) = lk_vAt 999 a b ve := (by unfold lk_vAt; split <;> omega)
    have hP : va_P D vwCl [(h0, .inr (2, [.ref h1, .int (iz (lk_vAt 999 a b ve))])), (h1, .inl (T 0, 115, .inl (zA Z)))] s.heap := by rw [← hZ]; exact hP
    have hD : va_D A [(h0, .inr (2, [.ref h1, .int (iz (lk_vAt 999 a b ve))])), (h1, .inl (T 0, 115, .inl (zA Z)))] := by rw [← hZ]; exact hD
    have hZ : (Z : Nat → Int) = lk_zAt 10 999 Z a b := (by unfold lk_zAt; split <;> first | rfl | omega)
    have hP : va_P D vwCl [(h0, .inr (2, [.ref h1, .int (iz (lk_vAt 999 a b ve))])), (h1, .inl (T 0, 115, .inl (zA (lk_zAt 10 999 Z a b))))] s.heap := by rw [← hZ]; exact hP
    have hD : va_D A [(h0, .inr (2, [.ref h1, .int (iz (lk_vAt 999 a b ve))])), (h1, .inl (T 0, 115, .inl (zA (lk_zAt 10 999 Z a b))))] := by rw [← hZ]; exact hD
    exact W.iret hx hb hr (fun t ht hW => ⟨⟨_, (), rfl, (congrArg iz (by unfold lk_rAt; split <;> (try split) <;> first | rfl | omega)), by show va_P _ _ _ t.heap; rw [ht]; exact hP⟩, hS.F ht⟩) hS.2.2 dX2_changePrice_8
set_option maxHeartbeats 4000000 in
set_option maxRecDepth 100000 in
theorem c_X2_changeInflow (l : Launch) (D : va_G) (T : Nat → ClassId) (sz : Nat) (h0 : Nat) (h1 : Nat) (Z : Nat → Int) (ve : Int) (a : Int) (b : Int) (hia : -2147483648 ≤ a ∧ a < 2147483648) (hib : -2147483648 ≤ b ∧ b < 2147483648) : Met l yX2_changeInflow wsX2_changeInflow ({ frames := 1, cells := 0, slots := 0, locals := 23 }) (kPc D T [.ref h0, .int (iz (a)), .int (iz (b))] (kW D sz [(h0, .inr (2, [.ref h1, .int (iz (ve))])), (h1, .inl (T 0, 115, .inl (zA Z)))])) (va_Qi (fun (r : Int32) (u : Unit) => r = iz (lk_rAt 34 99 Z a b)) (fun (u : Unit) (t : State) => va_P D vwCl [(h0, .inr (2, [.ref h1, .int (iz (lk_vAt 99 a b ve))])), (h1, .inl (T 0, 115, .inl (zA (lk_zAt 34 99 Z a b))))] t.heap) (va_A [(h0, .inr (2, [.ref h1, .int (iz (ve))])), (h1, .inl (T 0, 115, .inl (zA Z)))] sz)) 0 0 (va_A [(h0, .inr (2, [.ref h1, .int (iz (ve))])), (h1, .inl (T 0, 115, .inl (zA Z)))] sz) := by
  refine Met.ofW (cc := cX2_changeInflow) (maxL := 3) (ret := (some .int)) (by decide) rfl ?_
  intro p e s m args below meth c s₁ B hml hv
  obtain ⟨rfl, hK, hsz, hP, hD0⟩ := hv
  have hx := B.exec
  have hb := B.bytes
  have hr := B.returns
  have hts := atoms_spec (ws := wsX2_changeInflow) B.pre
  have hown : s.vm.findClass RX2 = some m.cls := findClass_of_methodNamed B.named
  have hlocks := B.notSynchronized
  have w0 := hts (.initialized RX6) (List.mem_of_getElem? (i := 3) rfl)
  have w1 := hts (.static yX6_isHour) (List.mem_of_getElem? (i := 2) rfl)
  have w2 := hts (.fieldLink RX2 15 "LakePlant$Lake" "version" "I") (List.mem_of_getElem? (i := 1) rfl)
  have w3 : ∀ w ∈ wsX20, w ∈ wsX2_changeInflow := by decide +kernel
  subst hsz
  have hD := hD0.self (sz := s.heap.size)
  generalize hAe : va_A [(h0, .inr (2, [.ref h1, .int (iz (ve))])), (h1, .inl (T 0, 115, .inl (zA Z)))] s.heap.size = A at hD ⊢
  have hA : ∀ q : Nat, s.heap.size ≤ q → A q := fun q h => by rw [← hAe]; exact Or.inr h
  have hS : va_S A s.heap s.heap [] := va_S.rf
  have hP : va_P D vwCl [(h0, .inr (2, [.ref h1, .int (iz (ve))])), (h1, .inl (T 0, 115, .inl (zA Z)))] s.heap := hP
  have hl := lv_entry ([.ref h0, .int (iz (a)), .int (iz (b))]) (n := 3) (Nat.le_of_ble_eq_true rfl)
  rw [lg_entry_eq]
  generalize (lg_sl ([.ref h0, .int (iz (a)), .int (iz (b))]) ++ List.replicate (3 - (lg_sl ([.ref h0, .int (iz (a)), .int (iz (b))])).length) Slot.unset).toArray = ls at hl ⊢
  have hl : lv_has ls 3 [(0, .ref h0), (1, .int (iz (a))), (2, .int (iz (b)))] := hl
  refine lv_iload_n hx hb dX2_changeInflow_0 rfl (lv_at hl 1 rfl) ?_
  refine kc_i (va_runSN (As := [.int (iz (a))]) (rest := []) ⟨hx, hb, hml, hown, hts⟩ (c_X6_isHour l D T a (by omega)) ⟨va_cnB 1 hts gX2_changeInflow_X6_isHour_n51 rfl rfl rfl (kn_RX2_51 hK) w0 (by decide +kernel) ⟨Nat.le_of_ble_eq_true rfl, Nat.le_of_ble_eq_true rfl⟩, w1, trivial⟩ (kPc.s hK (kcut hP [] rfl)) rfl rfl hl.1 rfl (lv_room (Nat.le_of_ble_eq_true rfl)) dX2_changeInflow_1 ⟨Nat.zero_le _, Nat.zero_le _⟩) (fun r1 hr1 => ?_)
  subst hr1
  refine kz_if_ne (tgt := 9) hx hb dX2_changeInflow_4 (by decide) (by omega) (fun c4 => ?_) (fun c4 => ?_)
  · refine lv_iload_n hx hb dX2_changeInflow_9 rfl (lv_at hl 2 rfl) ?_
    refine kz_if_lt (tgt := 19) hx hb dX2_changeInflow_10 (by decide) (by omega) (fun c10 => ?_) (fun c10 => ?_)
    · refine lv_bipush (v := iz (-2)) hx hb dX2_changeInflow_19 (by decide) ?_
      have hZ : (ve : Int) = lk_vAt 99 a b ve := (by unfold lk_vAt; split <;> omega)
      have hP : va_P D vwCl [(h0, .inr (2, [.ref h1, .int (iz (lk_vAt 99 a b ve))])), (h1, .inl (T 0, 115, .inl (zA Z)))] s.heap := by rw [← hZ]; exact hP
      have hD : va_D A [(h0, .inr (2, [.ref h1, .int (iz (lk_vAt 99 a b ve))])), (h1, .inl (T 0, 115, .inl (zA Z)))] := by rw [← hZ]; exact hD
      have hZ : (Z : Nat → Int) = lk_zAt 34 99 Z a b := (by unfold lk_zAt; split <;> first | rfl | omega)
      have hP : va_P D vwCl [(h0, .inr (2, [.ref h1, .int (iz (lk_vAt 99 a b ve))])), (h1, .inl (T 0, 115, .inl (zA (lk_zAt 34 99 Z a b))))] s.heap := by rw [← hZ]; exact hP
      have hD : va_D A [(h0, .inr (2, [.ref h1, .int (iz (lk_vAt 99 a b ve))])), (h1, .inl (T 0, 115, .inl (zA (lk_zAt 34 99 Z a b))))] := by rw [← hZ]; exact hD
      exact W.iret hx hb hr (fun t ht hW => ⟨⟨_, (), rfl, (congrArg iz (by unfold lk_rAt; split <;> (try split) <;> first | rfl | omega)), by show va_P _ _ _ t.heap; rw [ht]; exact hP⟩, hS.F ht⟩) hS.2.2 dX2_changeInflow_21
    · refine lv_iload_n hx hb dX2_changeInflow_13 rfl (lv_at hl 2 rfl) ?_
      refine lv_bipush (v := iz (99)) hx hb dX2_changeInflow_14 (by decide) ?_
      refine kz_icmp_le (tgt := 22) hx hb dX2_changeInflow_16 (by decide) (by omega) (by omega) (fun c16 => ?_) (fun c16 => ?_)
      · refine lv_aload_n hx hb dX2_changeInflow_22 rfl (lv_at hl 0 rfl) ?_
        refine lv_dup hx hb dX2_changeInflow_23 rfl ?_
        refine va_get (D := D) (ci := 2) (C := RX2) (T := TX2) (N := 2) hx hb hts w3 hown hK.1 hP 0 rfl rfl 1 (by decide) w2 (fun _ h9 => h9) rfl dX2_changeInflow_24 ?_
        refine lv_iconst (v := iz (1)) hx hb dX2_changeInflow_27 (by decide) ?_
        refine kz_add hx hb dX2_changeInflow_28 ?_
        refine va_put (D := D) (ci := 2) (v := .int (iz (ve + 1))) (ty := .int) (C := RX2) (T := TX2) (N := 2) hx hb hts w3 tyX2 tyX2_ok nmX2 hown hK.1 hP hD hS 0 rfl rfl 1 (by decide) w2 (fun _ h9 => h9) rfl (by decide +kernel) rfl rfl (Nat.le_of_ble_eq_true rfl) dX2_changeInflow_29 (fun H locs hP hD hS => ?_)
        have hP : va_P D vwCl [(h0, .inr (2, [.ref h1, .int (iz (ve + 1))])), (h1, .inl (T 0, 115, .inl (zA Z)))] H := hP
        have hD : va_D A [(h0, .inr (2, [.ref h1, .int (iz (ve + 1))])), (h1, .inl (T 0, 115, .inl (zA Z)))] := hD
        refine lv_aload_n hx hb dX2_changeInflow_32 rfl (lv_at hl 0 rfl) ?_
        refine lv_bipush (v := iz (34)) hx hb dX2_changeInflow_33 (by decide) ?_
        refine lv_iload_n hx hb dX2_changeInflow_35 rfl (lv_at hl 1 rfl) ?_
        refine kz_add hx hb dX2_changeInflow_36 ?_
        refine kz_top (y := ((34 + a.toNat : Nat) : Int)) (by omega) ?_
        refine lv_iload_n hx hb dX2_changeInflow_37 rfl (lv_at hl 2 rfl) ?_
        refine kc_wi (va_runV (As := [.int (iz (((34 + a.toNat : Nat) : Int))), .int (iz (b))]) (rest := []) ⟨hx, hb, hml, hown, hts⟩ (c_X2_replaced l D T H.size h0 h1 Z (ve + 1) (34 + a.toNat) (by omega) b) (cwV 2 hts gX2_changeInflow_X2_replaced rfl rfl rfl (by decide +kernel) ⟨Nat.le_of_ble_eq_true rfl, Nat.le_of_ble_eq_true rfl⟩) (kPc.v hK (va_recv hK.1 hP (ci := 2) (q0 := 0) rfl rfl) (kW.cut hP hD [0, 1] rfl (by rfl))) rfl rfl hl.1 rfl (lv_room (Nat.le_of_ble_eq_true rfl)) dX2_changeInflow_38 ⟨Nat.zero_le _, Nat.zero_le _⟩) hP hD hS hA [0, 1] rfl (fun _ => rfl) (fun r2 u H locs hr2 hP hD hS => ?_)
        have hP : va_P D vwCl [(h0, .inr (2, [.ref h1, .int (iz ((ve + 1)))])), (h1, .inl (T 0, 115, .inl (zA (zup Z (34 + a.toNat) b))))] H := hP
        have hD : va_D A [(h0, .inr (2, [.ref h1, .int (iz ((ve + 1)))])), (h1, .inl (T 0, 115, .inl (zA (zup Z (34 + a.toNat) b))))] := hD
        subst hr2
        have hZ : ((ve + 1) : Int) = lk_vAt 99 a b ve := (by unfold lk_vAt; split <;> omega)
        have hP : va_P D vwCl [(h0, .inr (2, [.ref h1, .int (iz (lk_vAt 99 a b ve))])), (h1, .inl (T 0, 115, .inl (zA (zup Z (34 + a.toNat) b))))] H := by rw [← hZ]; exact hP
        have hD : va_D A [(h0, .inr (2, [.ref h1, .int (iz (lk_vAt 99 a b ve))])), (h1, .inl (T 0, 115, .inl (zA (zup Z (34 + a.toNat) b))))] := by rw [← hZ]; exact hD
        have hZ : (zup Z (34 + a.toNat) b : Nat → Int) = lk_zAt 34 99 Z a b := (by unfold lk_zAt; split <;> first | rfl | omega)
        have hP : va_P D vwCl [(h0, .inr (2, [.ref h1, .int (iz (lk_vAt 99 a b ve))])), (h1, .inl (T 0, 115, .inl (zA (lk_zAt 34 99 Z a b))))] H := by rw [← hZ]; exact hP
        have hD : va_D A [(h0, .inr (2, [.ref h1, .int (iz (lk_vAt 99 a b ve))])), (h1, .inl (T 0, 115, .inl (zA (lk_zAt 34 99 Z a b))))] := by rw [← hZ]; exact hD
        exact W.iret hx hb hr (fun t ht hW => ⟨⟨_, (), rfl, (congrArg iz (by unfold lk_rAt; split <;> (try split) <;> first | rfl | omega)), by show va_P _ _ _ t.heap; rw [ht]; exact hP⟩, hS.F ht⟩) hS.2.2 dX2_changeInflow_41
      · refine lv_bipush (v := iz (-2)) hx hb dX2_changeInflow_19 (by decide) ?_
        have hZ : (ve : Int) = lk_vAt 99 a b ve := (by unfold lk_vAt; split <;> omega)
        have hP : va_P D vwCl [(h0, .inr (2, [.ref h1, .int (iz (lk_vAt 99 a b ve))])), (h1, .inl (T 0, 115, .inl (zA Z)))] s.heap := by rw [← hZ]; exact hP
        have hD : va_D A [(h0, .inr (2, [.ref h1, .int (iz (lk_vAt 99 a b ve))])), (h1, .inl (T 0, 115, .inl (zA Z)))] := by rw [← hZ]; exact hD
        have hZ : (Z : Nat → Int) = lk_zAt 34 99 Z a b := (by unfold lk_zAt; split <;> first | rfl | omega)
        have hP : va_P D vwCl [(h0, .inr (2, [.ref h1, .int (iz (lk_vAt 99 a b ve))])), (h1, .inl (T 0, 115, .inl (zA (lk_zAt 34 99 Z a b))))] s.heap := by rw [← hZ]; exact hP
        have hD : va_D A [(h0, .inr (2, [.ref h1, .int (iz (lk_vAt 99 a b ve))])), (h1, .inl (T 0, 115, .inl (zA (lk_zAt 34 99 Z a b))))] := by rw [← hZ]; exact hD
        exact W.iret hx hb hr (fun t ht hW => ⟨⟨_, (), rfl, (congrArg iz (by unfold lk_rAt; split <;> (try split) <;> first | rfl | omega)), by show va_P _ _ _ t.heap; rw [ht]; exact hP⟩, hS.F ht⟩) hS.2.2 dX2_changeInflow_21
  · refine lv_iconst (v := iz (-1)) hx hb dX2_changeInflow_7 (by decide) ?_
    have hZ : (ve : Int) = lk_vAt 99 a b ve := (by unfold lk_vAt; split <;> omega)
    have hP : va_P D vwCl [(h0, .inr (2, [.ref h1, .int (iz (lk_vAt 99 a b ve))])), (h1, .inl (T 0, 115, .inl (zA Z)))] s.heap := by rw [← hZ]; exact hP
    have hD : va_D A [(h0, .inr (2, [.ref h1, .int (iz (lk_vAt 99 a b ve))])), (h1, .inl (T 0, 115, .inl (zA Z)))] := by rw [← hZ]; exact hD
    have hZ : (Z : Nat → Int) = lk_zAt 34 99 Z a b := (by unfold lk_zAt; split <;> first | rfl | omega)
    have hP : va_P D vwCl [(h0, .inr (2, [.ref h1, .int (iz (lk_vAt 99 a b ve))])), (h1, .inl (T 0, 115, .inl (zA (lk_zAt 34 99 Z a b))))] s.heap := by rw [← hZ]; exact hP
    have hD : va_D A [(h0, .inr (2, [.ref h1, .int (iz (lk_vAt 99 a b ve))])), (h1, .inl (T 0, 115, .inl (zA (lk_zAt 34 99 Z a b))))] := by rw [← hZ]; exact hD
    exact W.iret hx hb hr (fun t ht hW => ⟨⟨_, (), rfl, (congrArg iz (by unfold lk_rAt; split <;> (try split) <;> first | rfl | omega)), by show va_P _ _ _ t.heap; rw [ht]; exact hP⟩, hS.F ht⟩) hS.2.2 dX2_changeInflow_8
set_option maxHeartbeats 4000000 in
set_option maxRecDepth 100000 in
theorem c_X2_changePlan (l : Launch) (D : va_G) (T : Nat → ClassId) (sz : Nat) (h0 : Nat) (h1 : Nat) (Z : Nat → Int) (ve : Int) (a : Int) (b : Int) (hia : -2147483648 ≤ a ∧ a < 2147483648) (hib : -2147483648 ≤ b ∧ b < 2147483648) (hV : VL Z) : Met l yX2_changePlan wsX2_changePlan ({ frames := 1, cells := 0, slots := 0, locals := 23 }) (kPc D T [.ref h0, .int (iz (a)), .int (iz (b))] (kW D sz [(h0, .inr (2, [.ref h1, .int (iz (ve))])), (h1, .inl (T 0, 115, .inl (zA Z)))])) (va_Qi (fun (r : Int32) (u : Unit) => r = iz (lk_rPlan Z a b)) (fun (u : Unit) (t : State) => va_P D vwCl [(h0, .inr (2, [.ref h1, .int (iz (ve))])), (h1, .inl (T 0, 115, .inl (zA (lk_zPlan Z a b))))] t.heap) (va_A [(h0, .inr (2, [.ref h1, .int (iz (ve))])), (h1, .inl (T 0, 115, .inl (zA Z)))] sz)) 0 0 (va_A [(h0, .inr (2, [.ref h1, .int (iz (ve))])), (h1, .inl (T 0, 115, .inl (zA Z)))] sz) := by
  refine Met.ofW (cc := cX2_changePlan) (maxL := 3) (ret := (some .int)) (by decide) rfl ?_
  intro p e s m args below meth c s₁ B hml hv
  obtain ⟨rfl, hK, hsz, hP, hD0⟩ := hv
  have hx := B.exec
  have hb := B.bytes
  have hr := B.returns
  have hts := atoms_spec (ws := wsX2_changePlan) B.pre
  have hown : s.vm.findClass RX2 = some m.cls := findClass_of_methodNamed B.named
  have hlocks := B.notSynchronized
  have w0 := hts (.initialized RX6) (List.mem_of_getElem? (i := 3) rfl)
  have w1 := hts (.static yX6_isHour) (List.mem_of_getElem? (i := 2) rfl)
  have w2 := hts (.fieldLink RX2 11 "LakePlant$Lake" "cells" "[I") (List.mem_of_getElem? (i := 1) rfl)
  have w3 : ∀ w ∈ wsX20, w ∈ wsX2_changePlan := by decide +kernel
  subst hsz
  have hD := hD0.self (sz := s.heap.size)
  generalize hAe : va_A [(h0, .inr (2, [.ref h1, .int (iz (ve))])), (h1, .inl (T 0, 115, .inl (zA Z)))] s.heap.size = A at hD ⊢
  have hA : ∀ q : Nat, s.heap.size ≤ q → A q := fun q h => by rw [← hAe]; exact Or.inr h
  have hS : va_S A s.heap s.heap [] := va_S.rf
  have hP : va_P D vwCl [(h0, .inr (2, [.ref h1, .int (iz (ve))])), (h1, .inl (T 0, 115, .inl (zA Z)))] s.heap := hP
  have hl := lv_entry ([.ref h0, .int (iz (a)), .int (iz (b))]) (n := 3) (Nat.le_of_ble_eq_true rfl)
  rw [lg_entry_eq]
  generalize (lg_sl ([.ref h0, .int (iz (a)), .int (iz (b))]) ++ List.replicate (3 - (lg_sl ([.ref h0, .int (iz (a)), .int (iz (b))])).length) Slot.unset).toArray = ls at hl ⊢
  have hl : lv_has ls 3 [(0, .ref h0), (1, .int (iz (a))), (2, .int (iz (b)))] := hl
  have hs := hV.1
  unfold VS at hs
  refine lv_iload_n hx hb dX2_changePlan_0 rfl (lv_at hl 1 rfl) ?_
  refine kc_i (va_runSN (As := [.int (iz (a))]) (rest := []) ⟨hx, hb, hml, hown, hts⟩ (c_X6_isHour l D T a (by omega)) ⟨va_cnB 1 hts gX2_changePlan_X6_isHour_n51 rfl rfl rfl (kn_RX2_51 hK) w0 (by decide +kernel) ⟨Nat.le_of_ble_eq_true rfl, Nat.le_of_ble_eq_true rfl⟩, w1, trivial⟩ (kPc.s hK (kcut hP [] rfl)) rfl rfl hl.1 rfl (lv_room (Nat.le_of_ble_eq_true rfl)) dX2_changePlan_1 ⟨Nat.zero_le _, Nat.zero_le _⟩) (fun r1 hr1 => ?_)
  subst hr1
  refine kz_if_ne (tgt := 9) hx hb dX2_changePlan_4 (by decide) (by omega) (fun c4 => ?_) (fun c4 => ?_)
  · refine lv_iload_n hx hb dX2_changePlan_9 rfl (lv_at hl 2 rfl) ?_
    refine lv_aload_n hx hb dX2_changePlan_10 rfl (lv_at hl 0 rfl) ?_
    refine va_get (D := D) (ci := 2) (C := RX2) (T := TX2) (N := 2) hx hb hts w3 hown hK.1 hP 0 rfl rfl 0 (by decide) w2 (fun _ h9 => h9) rfl dX2_changePlan_11 ?_
    refine lv_iconst (v := iz (0)) hx hb dX2_changePlan_14 (by decide) ?_
    refine kz_iald hx hb hK hP (1) rfl (0) (by omega) (by omega) (by omega) dX2_changePlan_15 ?_
    refine kz_neg hx hb dX2_changePlan_16 ?_
    refine kz_icmp_lt (tgt := 30) hx hb dX2_changePlan_17 (by decide) (by omega) (by omega) (fun c17 => ?_) (fun c17 => ?_)
    · refine lv_bipush (v := iz (-2)) hx hb dX2_changePlan_30 (by decide) ?_
      have hZ : (Z : Nat → Int) = lk_zPlan Z a b := (by unfold lk_zPlan; split <;> first | rfl | omega)
      have hP : va_P D vwCl [(h0, .inr (2, [.ref h1, .int (iz (ve))])), (h1, .inl (T 0, 115, .inl (zA (lk_zPlan Z a b))))] s.heap := by rw [← hZ]; exact hP
      have hD : va_D A [(h0, .inr (2, [.ref h1, .int (iz (ve))])), (h1, .inl (T 0, 115, .inl (zA (lk_zPlan Z a b))))] := by rw [← hZ]; exact hD
      exact W.iret hx hb hr (fun t ht hW => ⟨⟨_, (), rfl, (congrArg iz (by unfold lk_rPlan; split <;> (try split) <;> first | rfl | omega)), by show va_P _ _ _ t.heap; rw [ht]; exact hP⟩, hS.F ht⟩) hS.2.2 dX2_changePlan_32
    · refine lv_iload_n hx hb dX2_changePlan_20 rfl (lv_at hl 2 rfl) ?_
      refine lv_aload_n hx hb dX2_changePlan_21 rfl (lv_at hl 0 rfl) ?_
      refine va_get (D := D) (ci := 2) (C := RX2) (T := TX2) (N := 2) hx hb hts w3 hown hK.1 hP 0 rfl rfl 0 (by decide) w2 (fun _ h9 => h9) rfl dX2_changePlan_22 ?_
      refine lv_iconst (v := iz (1)) hx hb dX2_changePlan_25 (by decide) ?_
      refine kz_iald hx hb hK hP (1) rfl (1) (by omega) (by omega) (by omega) dX2_changePlan_26 ?_
      refine kz_icmp_le (tgt := 33) hx hb dX2_changePlan_27 (by decide) (by omega) (by omega) (fun c27 => ?_) (fun c27 => ?_)
      · refine lv_aload_n hx hb dX2_changePlan_33 rfl (lv_at hl 0 rfl) ?_
        refine lv_bipush (v := iz (58)) hx hb dX2_changePlan_34 (by decide) ?_
        refine lv_iload_n hx hb dX2_changePlan_36 rfl (lv_at hl 1 rfl) ?_
        refine kz_add hx hb dX2_changePlan_37 ?_
        refine kz_top (y := ((58 + a.toNat : Nat) : Int)) (by omega) ?_
        refine lv_iload_n hx hb dX2_changePlan_38 rfl (lv_at hl 2 rfl) ?_
        refine kc_wi (va_runV (As := [.int (iz (((58 + a.toNat : Nat) : Int))), .int (iz (b))]) (rest := []) ⟨hx, hb, hml, hown, hts⟩ (c_X2_replaced l D T s.heap.size h0 h1 Z ve (58 + a.toNat) (by omega) b) (cwV 2 hts gX2_changePlan_X2_replaced rfl rfl rfl (by decide +kernel) ⟨Nat.le_of_ble_eq_true rfl, Nat.le_of_ble_eq_true rfl⟩) (kPc.v hK (va_recv hK.1 hP (ci := 2) (q0 := 0) rfl rfl) (kW.cut hP hD [0, 1] rfl (by rfl))) rfl rfl hl.1 rfl (lv_room (Nat.le_of_ble_eq_true rfl)) dX2_changePlan_39 ⟨Nat.zero_le _, Nat.zero_le _⟩) hP hD hS hA [0, 1] rfl (fun _ => rfl) (fun r2 u H locs hr2 hP hD hS => ?_)
        have hP : va_P D vwCl [(h0, .inr (2, [.ref h1, .int (iz (ve))])), (h1, .inl (T 0, 115, .inl (zA (zup Z (58 + a.toNat) b))))] H := hP
        have hD : va_D A [(h0, .inr (2, [.ref h1, .int (iz (ve))])), (h1, .inl (T 0, 115, .inl (zA (zup Z (58 + a.toNat) b))))] := hD
        subst hr2
        refine lv_bipush (v := iz (100)) hx hb dX2_changePlan_42 (by decide) ?_
        refine kz_add hx hb dX2_changePlan_44 ?_
        have hZ : (zup Z (58 + a.toNat) b : Nat → Int) = lk_zPlan Z a b := (by unfold lk_zPlan; split <;> first | rfl | omega)
        have hP : va_P D vwCl [(h0, .inr (2, [.ref h1, .int (iz (ve))])), (h1, .inl (T 0, 115, .inl (zA (lk_zPlan Z a b))))] H := by rw [← hZ]; exact hP
        have hD : va_D A [(h0, .inr (2, [.ref h1, .int (iz (ve))])), (h1, .inl (T 0, 115, .inl (zA (lk_zPlan Z a b))))] := by rw [← hZ]; exact hD
        exact W.iret hx hb hr (fun t ht hW => ⟨⟨_, (), rfl, (congrArg iz (by unfold lk_rPlan; split <;> (try split) <;> first | rfl | omega)), by show va_P _ _ _ t.heap; rw [ht]; exact hP⟩, hS.F ht⟩) hS.2.2 dX2_changePlan_45
      · refine lv_bipush (v := iz (-2)) hx hb dX2_changePlan_30 (by decide) ?_
        have hZ : (Z : Nat → Int) = lk_zPlan Z a b := (by unfold lk_zPlan; split <;> first | rfl | omega)
        have hP : va_P D vwCl [(h0, .inr (2, [.ref h1, .int (iz (ve))])), (h1, .inl (T 0, 115, .inl (zA (lk_zPlan Z a b))))] s.heap := by rw [← hZ]; exact hP
        have hD : va_D A [(h0, .inr (2, [.ref h1, .int (iz (ve))])), (h1, .inl (T 0, 115, .inl (zA (lk_zPlan Z a b))))] := by rw [← hZ]; exact hD
        exact W.iret hx hb hr (fun t ht hW => ⟨⟨_, (), rfl, (congrArg iz (by unfold lk_rPlan; split <;> (try split) <;> first | rfl | omega)), by show va_P _ _ _ t.heap; rw [ht]; exact hP⟩, hS.F ht⟩) hS.2.2 dX2_changePlan_32
  · refine lv_iconst (v := iz (-1)) hx hb dX2_changePlan_7 (by decide) ?_
    have hZ : (Z : Nat → Int) = lk_zPlan Z a b := (by unfold lk_zPlan; split <;> first | rfl | omega)
    have hP : va_P D vwCl [(h0, .inr (2, [.ref h1, .int (iz (ve))])), (h1, .inl (T 0, 115, .inl (zA (lk_zPlan Z a b))))] s.heap := by rw [← hZ]; exact hP
    have hD : va_D A [(h0, .inr (2, [.ref h1, .int (iz (ve))])), (h1, .inl (T 0, 115, .inl (zA (lk_zPlan Z a b))))] := by rw [← hZ]; exact hD
    exact W.iret hx hb hr (fun t ht hW => ⟨⟨_, (), rfl, (congrArg iz (by unfold lk_rPlan; split <;> (try split) <;> first | rfl | omega)), by show va_P _ _ _ t.heap; rw [ht]; exact hP⟩, hS.F ht⟩) hS.2.2 dX2_changePlan_8
set_option maxHeartbeats 4000000 in
set_option maxRecDepth 100000 in
theorem c_X2_addContract (l : Launch) (D : va_G) (T : Nat → ClassId) (sz : Nat) (h0 : Nat) (h1 : Nat) (Z : Nat → Int) (ve : Int) (a : Int) (b : Int) (c2 : Int) (d2 : Int) (hia : -2147483648 ≤ a ∧ a < 2147483648) (hib : -2147483648 ≤ b ∧ b < 2147483648) (hic2 : -2147483648 ≤ c2 ∧ c2 < 2147483648) (hid2 : -2147483648 ≤ d2 ∧ d2 < 2147483648) (hV : VL Z) : Met l yX2_addContract wsX2_addContract ({ frames := 1, cells := 0, slots := 0, locals := 23 }) (kPc D T [.ref h0, .int (iz (a)), .int (iz (b)), .int (iz (c2)), .int (iz (d2))] (kW D sz [(h0, .inr (2, [.ref h1, .int (iz (ve))])), (h1, .inl (T 0, 115, .inl (zA Z)))])) (va_Qi (fun (r : Int32) (u : Unit) => r = iz (lk_rCon Z a b c2 d2)) (fun (u : Unit) (t : State) => va_P D vwCl [(h0, .inr (2, [.ref h1, .int (iz (lk_vCon Z a b c2 d2 ve))])), (h1, .inl (T 0, 115, .inl (zA (lk_zCon Z a b c2 d2))))] t.heap) (va_A [(h0, .inr (2, [.ref h1, .int (iz (ve))])), (h1, .inl (T 0, 115, .inl (zA Z)))] sz)) 0 0 (va_A [(h0, .inr (2, [.ref h1, .int (iz (ve))])), (h1, .inl (T 0, 115, .inl (zA Z)))] sz) := by
  refine Met.ofW (cc := cX2_addContract) (maxL := 7) (ret := (some .int)) (by decide) rfl ?_
  intro p e s m args below meth c s₁ B hml hv
  obtain ⟨rfl, hK, hsz, hP, hD0⟩ := hv
  have hx := B.exec
  have hb := B.bytes
  have hr := B.returns
  have hts := atoms_spec (ws := wsX2_addContract) B.pre
  have hown : s.vm.findClass RX2 = some m.cls := findClass_of_methodNamed B.named
  have hlocks := B.notSynchronized
  have w0 := hts (.initialized RX6) (List.mem_of_getElem? (i := 4) rfl)
  have w1 := hts (.static yX6_isHour) (List.mem_of_getElem? (i := 3) rfl)
  have w2 := hts (.fieldLink RX2 11 "LakePlant$Lake" "cells" "[I") (List.mem_of_getElem? (i := 1) rfl)
  have w3 : ∀ w ∈ wsX20, w ∈ wsX2_addContract := by decide +kernel
  have w4 := hts (.fieldLink RX2 15 "LakePlant$Lake" "version" "I") (List.mem_of_getElem? (i := 2) rfl)
  subst hsz
  have hD := hD0.self (sz := s.heap.size)
  generalize hAe : va_A [(h0, .inr (2, [.ref h1, .int (iz (ve))])), (h1, .inl (T 0, 115, .inl (zA Z)))] s.heap.size = A at hD ⊢
  have hA : ∀ q : Nat, s.heap.size ≤ q → A q := fun q h => by rw [← hAe]; exact Or.inr h
  have hS : va_S A s.heap s.heap [] := va_S.rf
  have hP : va_P D vwCl [(h0, .inr (2, [.ref h1, .int (iz (ve))])), (h1, .inl (T 0, 115, .inl (zA Z)))] s.heap := hP
  have hl := lv_entry ([.ref h0, .int (iz (a)), .int (iz (b)), .int (iz (c2)), .int (iz (d2))]) (n := 7) (Nat.le_of_ble_eq_true rfl)
  rw [lg_entry_eq]
  generalize (lg_sl ([.ref h0, .int (iz (a)), .int (iz (b)), .int (iz (c2)), .int (iz (d2))]) ++ List.replicate (7 - (lg_sl ([.ref h0, .int (iz (a)), .int (iz (b)), .int (iz (c2)), .int (iz (d2))])).length) Slot.unset).toArray = ls at hl ⊢
  have hl : lv_has ls 7 [(0, .ref h0), (1, .int (iz (a))), (2, .int (iz (b))), (3, .int (iz (c2))), (4, .int (iz (d2)))] := hl
  have hs := hV.1
  unfold VS at hs
  refine lv_iload_n hx hb dX2_addContract_0 rfl (lv_at hl 1 rfl) ?_
  refine kc_i (va_runSN (As := [.int (iz (a))]) (rest := []) ⟨hx, hb, hml, hown, hts⟩ (c_X6_isHour l D T a (by omega)) ⟨va_cnB 1 hts gX2_addContract_X6_isHour_n51 rfl rfl rfl (kn_RX2_51 hK) w0 (by decide +kernel) ⟨Nat.le_of_ble_eq_true rfl, Nat.le_of_ble_eq_true rfl⟩, w1, trivial⟩ (kPc.s hK (kcut hP [] rfl)) rfl rfl hl.1 rfl (lv_room (Nat.le_of_ble_eq_true rfl)) dX2_addContract_1 ⟨Nat.zero_le _, Nat.zero_le _⟩) (fun r1 hr1 => ?_)
  subst hr1
  refine kz_if_ne (tgt := 9) hx hb dX2_addContract_4 (by decide) (by omega) (fun c4 => ?_) (fun c4 => ?_)
  · refine lv_iload_n hx hb dX2_addContract_9 rfl (lv_at hl 2 rfl) ?_
    refine lv_iconst (v := iz (1)) hx hb dX2_addContract_10 (by decide) ?_
    refine kz_icmp_lt (tgt := 44) hx hb dX2_addContract_11 (by decide) (by omega) (by omega) (fun c11 => ?_) (fun c11 => ?_)
    · refine lv_bipush (v := iz (-2)) hx hb dX2_addContract_44 (by decide) ?_
      have hZ : (ve : Int) = lk_vCon Z a b c2 d2 ve := (by unfold lk_vCon; split <;> omega)
      have hP : va_P D vwCl [(h0, .inr (2, [.ref h1, .int (iz (lk_vCon Z a b c2 d2 ve))])), (h1, .inl (T 0, 115, .inl (zA Z)))] s.heap := by rw [← hZ]; exact hP
      have hD : va_D A [(h0, .inr (2, [.ref h1, .int (iz (lk_vCon Z a b c2 d2 ve))])), (h1, .inl (T 0, 115, .inl (zA Z)))] := by rw [← hZ]; exact hD
      have hZ : (Z : Nat → Int) = lk_zCon Z a b c2 d2 := (by unfold lk_zCon; split <;> first | rfl | omega)
      have hP : va_P D vwCl [(h0, .inr (2, [.ref h1, .int (iz (lk_vCon Z a b c2 d2 ve))])), (h1, .inl (T 0, 115, .inl (zA (lk_zCon Z a b c2 d2))))] s.heap := by rw [← hZ]; exact hP
      have hD : va_D A [(h0, .inr (2, [.ref h1, .int (iz (lk_vCon Z a b c2 d2 ve))])), (h1, .inl (T 0, 115, .inl (zA (lk_zCon Z a b c2 d2))))] := by rw [← hZ]; exact hD
      exact W.iret hx hb hr (fun t ht hW => ⟨⟨_, (), rfl, (congrArg iz (by unfold lk_rCon; split <;> (try split) <;> (try split) <;> first | rfl | omega)), by show va_P _ _ _ t.heap; rw [ht]; exact hP⟩, hS.F ht⟩) hS.2.2 dX2_addContract_46
    · refine lv_iload_n hx hb dX2_addContract_14 rfl (lv_at hl 2 rfl) ?_
      refine lv_bipush (v := iz (30)) hx hb dX2_addContract_15 (by decide) ?_
      refine kz_icmp_gt (tgt := 44) hx hb dX2_addContract_17 (by decide) (by omega) (by omega) (fun c17 => ?_) (fun c17 => ?_)
      · refine lv_bipush (v := iz (-2)) hx hb dX2_addContract_44 (by decide) ?_
        have hZ : (ve : Int) = lk_vCon Z a b c2 d2 ve := (by unfold lk_vCon; split <;> omega)
        have hP : va_P D vwCl [(h0, .inr (2, [.ref h1, .int (iz (lk_vCon Z a b c2 d2 ve))])), (h1, .inl (T 0, 115, .inl (zA Z)))] s.heap := by rw [← hZ]; exact hP
        have hD : va_D A [(h0, .inr (2, [.ref h1, .int (iz (lk_vCon Z a b c2 d2 ve))])), (h1, .inl (T 0, 115, .inl (zA Z)))] := by rw [← hZ]; exact hD
        have hZ : (Z : Nat → Int) = lk_zCon Z a b c2 d2 := (by unfold lk_zCon; split <;> first | rfl | omega)
        have hP : va_P D vwCl [(h0, .inr (2, [.ref h1, .int (iz (lk_vCon Z a b c2 d2 ve))])), (h1, .inl (T 0, 115, .inl (zA (lk_zCon Z a b c2 d2))))] s.heap := by rw [← hZ]; exact hP
        have hD : va_D A [(h0, .inr (2, [.ref h1, .int (iz (lk_vCon Z a b c2 d2 ve))])), (h1, .inl (T 0, 115, .inl (zA (lk_zCon Z a b c2 d2))))] := by rw [← hZ]; exact hD
        exact W.iret hx hb hr (fun t ht hW => ⟨⟨_, (), rfl, (congrArg iz (by unfold lk_rCon; split <;> (try split) <;> (try split) <;> first | rfl | omega)), by show va_P _ _ _ t.heap; rw [ht]; exact hP⟩, hS.F ht⟩) hS.2.2 dX2_addContract_46
      · refine lv_iload_n hx hb dX2_addContract_20 rfl (lv_at hl 3 rfl) ?_
        refine kz_if_lt (tgt := 44) hx hb dX2_addContract_21 (by decide) (by omega) (fun c21 => ?_) (fun c21 => ?_)
        · refine lv_bipush (v := iz (-2)) hx hb dX2_addContract_44 (by decide) ?_
          have hZ : (ve : Int) = lk_vCon Z a b c2 d2 ve := (by unfold lk_vCon; split <;> omega)
          have hP : va_P D vwCl [(h0, .inr (2, [.ref h1, .int (iz (lk_vCon Z a b c2 d2 ve))])), (h1, .inl (T 0, 115, .inl (zA Z)))] s.heap := by rw [← hZ]; exact hP
          have hD : va_D A [(h0, .inr (2, [.ref h1, .int (iz (lk_vCon Z a b c2 d2 ve))])), (h1, .inl (T 0, 115, .inl (zA Z)))] := by rw [← hZ]; exact hD
          have hZ : (Z : Nat → Int) = lk_zCon Z a b c2 d2 := (by unfold lk_zCon; split <;> first | rfl | omega)
          have hP : va_P D vwCl [(h0, .inr (2, [.ref h1, .int (iz (lk_vCon Z a b c2 d2 ve))])), (h1, .inl (T 0, 115, .inl (zA (lk_zCon Z a b c2 d2))))] s.heap := by rw [← hZ]; exact hP
          have hD : va_D A [(h0, .inr (2, [.ref h1, .int (iz (lk_vCon Z a b c2 d2 ve))])), (h1, .inl (T 0, 115, .inl (zA (lk_zCon Z a b c2 d2))))] := by rw [← hZ]; exact hD
          exact W.iret hx hb hr (fun t ht hW => ⟨⟨_, (), rfl, (congrArg iz (by unfold lk_rCon; split <;> (try split) <;> (try split) <;> first | rfl | omega)), by show va_P _ _ _ t.heap; rw [ht]; exact hP⟩, hS.F ht⟩) hS.2.2 dX2_addContract_46
        · refine lv_iload_n hx hb dX2_addContract_24 rfl (lv_at hl 3 rfl) ?_
          refine lv_sipush (v := iz (9999)) hx hb dX2_addContract_25 (by decide) ?_
          refine kz_icmp_gt (tgt := 44) hx hb dX2_addContract_28 (by decide) (by omega) (by omega) (fun c28 => ?_) (fun c28 => ?_)
          · refine lv_bipush (v := iz (-2)) hx hb dX2_addContract_44 (by decide) ?_
            have hZ : (ve : Int) = lk_vCon Z a b c2 d2 ve := (by unfold lk_vCon; split <;> omega)
            have hP : va_P D vwCl [(h0, .inr (2, [.ref h1, .int (iz (lk_vCon Z a b c2 d2 ve))])), (h1, .inl (T 0, 115, .inl (zA Z)))] s.heap := by rw [← hZ]; exact hP
            have hD : va_D A [(h0, .inr (2, [.ref h1, .int (iz (lk_vCon Z a b c2 d2 ve))])), (h1, .inl (T 0, 115, .inl (zA Z)))] := by rw [← hZ]; exact hD
            have hZ : (Z : Nat → Int) = lk_zCon Z a b c2 d2 := (by unfold lk_zCon; split <;> first | rfl | omega)
            have hP : va_P D vwCl [(h0, .inr (2, [.ref h1, .int (iz (lk_vCon Z a b c2 d2 ve))])), (h1, .inl (T 0, 115, .inl (zA (lk_zCon Z a b c2 d2))))] s.heap := by rw [← hZ]; exact hP
            have hD : va_D A [(h0, .inr (2, [.ref h1, .int (iz (lk_vCon Z a b c2 d2 ve))])), (h1, .inl (T 0, 115, .inl (zA (lk_zCon Z a b c2 d2))))] := by rw [← hZ]; exact hD
            exact W.iret hx hb hr (fun t ht hW => ⟨⟨_, (), rfl, (congrArg iz (by unfold lk_rCon; split <;> (try split) <;> (try split) <;> first | rfl | omega)), by show va_P _ _ _ t.heap; rw [ht]; exact hP⟩, hS.F ht⟩) hS.2.2 dX2_addContract_46
          · refine lv_iload hx hb dX2_addContract_31 (lv_at hl 4 rfl) ?_
            refine kz_if_lt (tgt := 44) hx hb dX2_addContract_33 (by decide) (by omega) (fun c33 => ?_) (fun c33 => ?_)
            · refine lv_bipush (v := iz (-2)) hx hb dX2_addContract_44 (by decide) ?_
              have hZ : (ve : Int) = lk_vCon Z a b c2 d2 ve := (by unfold lk_vCon; split <;> omega)
              have hP : va_P D vwCl [(h0, .inr (2, [.ref h1, .int (iz (lk_vCon Z a b c2 d2 ve))])), (h1, .inl (T 0, 115, .inl (zA Z)))] s.heap := by rw [← hZ]; exact hP
              have hD : va_D A [(h0, .inr (2, [.ref h1, .int (iz (lk_vCon Z a b c2 d2 ve))])), (h1, .inl (T 0, 115, .inl (zA Z)))] := by rw [← hZ]; exact hD
              have hZ : (Z : Nat → Int) = lk_zCon Z a b c2 d2 := (by unfold lk_zCon; split <;> first | rfl | omega)
              have hP : va_P D vwCl [(h0, .inr (2, [.ref h1, .int (iz (lk_vCon Z a b c2 d2 ve))])), (h1, .inl (T 0, 115, .inl (zA (lk_zCon Z a b c2 d2))))] s.heap := by rw [← hZ]; exact hP
              have hD : va_D A [(h0, .inr (2, [.ref h1, .int (iz (lk_vCon Z a b c2 d2 ve))])), (h1, .inl (T 0, 115, .inl (zA (lk_zCon Z a b c2 d2))))] := by rw [← hZ]; exact hD
              exact W.iret hx hb hr (fun t ht hW => ⟨⟨_, (), rfl, (congrArg iz (by unfold lk_rCon; split <;> (try split) <;> (try split) <;> first | rfl | omega)), by show va_P _ _ _ t.heap; rw [ht]; exact hP⟩, hS.F ht⟩) hS.2.2 dX2_addContract_46
            · refine lv_iload hx hb dX2_addContract_36 (lv_at hl 4 rfl) ?_
              refine lv_sipush (v := iz (9999)) hx hb dX2_addContract_38 (by decide) ?_
              refine kz_icmp_le (tgt := 47) hx hb dX2_addContract_41 (by decide) (by omega) (by omega) (fun c41 => ?_) (fun c41 => ?_)
              · refine lv_aload_n hx hb dX2_addContract_47 rfl (lv_at hl 0 rfl) ?_
                refine kc_i (va_runV (As := []) (rest := []) ⟨hx, hb, hml, hown, hts⟩ (c_X2_contracts l D T h0 h1 Z ve) (cwV 0 hts gX2_addContract_X2_contracts rfl rfl rfl (by decide +kernel) ⟨Nat.le_of_ble_eq_true rfl, Nat.le_of_ble_eq_true rfl⟩) (kPc.v hK (va_recv hK.1 hP (ci := 2) (q0 := 0) rfl rfl) (kcut hP [0, 1] rfl)) rfl rfl hl.1 rfl (lv_room (Nat.le_of_ble_eq_true rfl)) dX2_addContract_48 ⟨Nat.zero_le _, Nat.zero_le _⟩) (fun r2 hr2 => ?_)
                subst hr2
                refine lv_istore (lv' := [(5, .int (iz (Z 114))), (0, .ref h0), (1, .int (iz (a))), (2, .int (iz (b))), (3, .int (iz (c2))), (4, .int (iz (d2)))]) hx hb dX2_addContract_51 hl (by decide) rfl (fun ls hl => ?_)
                refine lv_iload hx hb dX2_addContract_53 (lv_at hl 0 rfl) ?_
                refine lv_bipush (v := iz (8)) hx hb dX2_addContract_55 (by decide) ?_
                refine kz_icmp_lt (tgt := 63) hx hb dX2_addContract_57 (by decide) (by omega) (by omega) (fun c57 => ?_) (fun c57 => ?_)
                · obtain ⟨n, hn⟩ := Int.eq_ofNat_of_zero_le hs.2.2.2.2.2.2.2.2.2.2.2.1
                  have hl : lv_has ls 7 [(5, .int (iz (((n : Nat) : Int)))), (0, .ref h0), (1, .int (iz (a))), (2, .int (iz (b))), (3, .int (iz (c2))), (4, .int (iz (d2)))] := by rw [← (show (Z 114 : Int) = ((n : Nat) : Int) from hn)]; exact hl
                  refine lv_bipush (v := iz (82)) hx hb dX2_addContract_63 (by decide) ?_
                  refine lv_iload hx hb dX2_addContract_65 (lv_at hl 0 rfl) ?_
                  refine lv_iconst (v := iz (4)) hx hb dX2_addContract_67 (by decide) ?_
                  refine kz_mul hx hb dX2_addContract_68 ?_
                  refine kz_add hx hb dX2_addContract_69 ?_
                  refine kz_top (y := ((82 + n * 4 : Nat) : Int)) (by omega) ?_
                  refine lv_istore (lv' := [(6, .int (iz (((82 + n * 4 : Nat) : Int)))), (5, .int (iz (((n : Nat) : Int)))), (0, .ref h0), (1, .int (iz (a))), (2, .int (iz (b))), (3, .int (iz (c2))), (4, .int (iz (d2)))]) hx hb dX2_addContract_70 hl (by decide) rfl (fun ls hl => ?_)
                  refine lv_aload_n hx hb dX2_addContract_72 rfl (lv_at hl 2 rfl) ?_
                  refine lv_iload hx hb dX2_addContract_73 (lv_at hl 0 rfl) ?_
                  refine lv_iconst (v := iz (0)) hx hb dX2_addContract_75 (by decide) ?_
                  refine kz_add hx hb dX2_addContract_76 ?_
                  refine kz_top (y := ((82 + n * 4 + 0 : Nat) : Int)) (by omega) ?_
                  refine lv_iload_n hx hb dX2_addContract_77 rfl (lv_at hl 3 rfl) ?_
                  refine kc_wi (va_runV (As := [.int (iz (((82 + n * 4 + 0 : Nat) : Int))), .int (iz (a))]) (rest := []) ⟨hx, hb, hml, hown, hts⟩ (c_X2_replaced l D T s.heap.size h0 h1 Z ve (82 + n * 4 + 0) (by omega) a) (cwV 2 hts gX2_addContract_X2_replaced rfl rfl rfl (by decide +kernel) ⟨Nat.le_of_ble_eq_true rfl, Nat.le_of_ble_eq_true rfl⟩) (kPc.v hK (va_recv hK.1 hP (ci := 2) (q0 := 0) rfl rfl) (kW.cut hP hD [0, 1] rfl (by rfl))) rfl rfl hl.1 rfl (lv_room (Nat.le_of_ble_eq_true rfl)) dX2_addContract_78 ⟨Nat.zero_le _, Nat.zero_le _⟩) hP hD hS hA [0, 1] rfl (fun _ => rfl) (fun r3 u H locs hr3 hP hD hS => ?_)
                  have hP : va_P D vwCl [(h0, .inr (2, [.ref h1, .int (iz (ve))])), (h1, .inl (T 0, 115, .inl (zA (zup Z (82 + n * 4 + 0) a))))] H := hP
                  have hD : va_D A [(h0, .inr (2, [.ref h1, .int (iz (ve))])), (h1, .inl (T 0, 115, .inl (zA (zup Z (82 + n * 4 + 0) a))))] := hD
                  subst hr3
                  refine lv_pop hx hb dX2_addContract_81 rfl ?_
                  refine lv_aload_n hx hb dX2_addContract_82 rfl (lv_at hl 2 rfl) ?_
                  refine lv_iload hx hb dX2_addContract_83 (lv_at hl 0 rfl) ?_
                  refine lv_iconst (v := iz (1)) hx hb dX2_addContract_85 (by decide) ?_
                  refine kz_add hx hb dX2_addContract_86 ?_
                  refine kz_top (y := ((82 + n * 4 + 1 : Nat) : Int)) (by omega) ?_
                  refine lv_iload_n hx hb dX2_addContract_87 rfl (lv_at hl 4 rfl) ?_
                  refine kc_wi (va_runV (As := [.int (iz (((82 + n * 4 + 1 : Nat) : Int))), .int (iz (b))]) (rest := []) ⟨hx, hb, hml, hown, hts⟩ (c_X2_replaced l D T H.size h0 h1 (zup Z (82 + n * 4 + 0) a) ve (82 + n * 4 + 1) (by omega) b) (cwV 2 hts gX2_addContract_X2_replaced rfl rfl rfl (by decide +kernel) ⟨Nat.le_of_ble_eq_true rfl, Nat.le_of_ble_eq_true rfl⟩) (kPc.v hK (va_recv hK.1 hP (ci := 2) (q0 := 0) rfl rfl) (kW.cut hP hD [0, 1] rfl (by rfl))) rfl rfl hl.1 rfl (lv_room (Nat.le_of_ble_eq_true rfl)) dX2_addContract_88 ⟨Nat.zero_le _, Nat.zero_le _⟩) hP hD hS hA [0, 1] rfl (fun _ => rfl) (fun r4 u H locs hr4 hP hD hS => ?_)
                  have hP : va_P D vwCl [(h0, .inr (2, [.ref h1, .int (iz (ve))])), (h1, .inl (T 0, 115, .inl (zA (zup (zup Z (82 + n * 4 + 0) a) (82 + n * 4 + 1) b))))] H := hP
                  have hD : va_D A [(h0, .inr (2, [.ref h1, .int (iz (ve))])), (h1, .inl (T 0, 115, .inl (zA (zup (zup Z (82 + n * 4 + 0) a) (82 + n * 4 + 1) b))))] := hD
                  subst hr4
                  refine lv_pop hx hb dX2_addContract_91 rfl ?_
                  refine lv_aload_n hx hb dX2_addContract_92 rfl (lv_at hl 2 rfl) ?_
                  refine lv_iload hx hb dX2_addContract_93 (lv_at hl 0 rfl) ?_
                  refine lv_iconst (v := iz (2)) hx hb dX2_addContract_95 (by decide) ?_
                  refine kz_add hx hb dX2_addContract_96 ?_
                  refine kz_top (y := ((82 + n * 4 + 2 : Nat) : Int)) (by omega) ?_
                  refine lv_iload_n hx hb dX2_addContract_97 rfl (lv_at hl 5 rfl) ?_
                  refine kc_wi (va_runV (As := [.int (iz (((82 + n * 4 + 2 : Nat) : Int))), .int (iz (c2))]) (rest := []) ⟨hx, hb, hml, hown, hts⟩ (c_X2_replaced l D T H.size h0 h1 (zup (zup Z (82 + n * 4 + 0) a) (82 + n * 4 + 1) b) ve (82 + n * 4 + 2) (by omega) c2) (cwV 2 hts gX2_addContract_X2_replaced rfl rfl rfl (by decide +kernel) ⟨Nat.le_of_ble_eq_true rfl, Nat.le_of_ble_eq_true rfl⟩) (kPc.v hK (va_recv hK.1 hP (ci := 2) (q0 := 0) rfl rfl) (kW.cut hP hD [0, 1] rfl (by rfl))) rfl rfl hl.1 rfl (lv_room (Nat.le_of_ble_eq_true rfl)) dX2_addContract_98 ⟨Nat.zero_le _, Nat.zero_le _⟩) hP hD hS hA [0, 1] rfl (fun _ => rfl) (fun r5 u H locs hr5 hP hD hS => ?_)
                  have hP : va_P D vwCl [(h0, .inr (2, [.ref h1, .int (iz (ve))])), (h1, .inl (T 0, 115, .inl (zA (zup (zup (zup Z (82 + n * 4 + 0) a) (82 + n * 4 + 1) b) (82 + n * 4 + 2) c2))))] H := hP
                  have hD : va_D A [(h0, .inr (2, [.ref h1, .int (iz (ve))])), (h1, .inl (T 0, 115, .inl (zA (zup (zup (zup Z (82 + n * 4 + 0) a) (82 + n * 4 + 1) b) (82 + n * 4 + 2) c2))))] := hD
                  subst hr5
                  refine lv_pop hx hb dX2_addContract_101 rfl ?_
                  refine lv_aload_n hx hb dX2_addContract_102 rfl (lv_at hl 2 rfl) ?_
                  refine lv_iload hx hb dX2_addContract_103 (lv_at hl 0 rfl) ?_
                  refine lv_iconst (v := iz (3)) hx hb dX2_addContract_105 (by decide) ?_
                  refine kz_add hx hb dX2_addContract_106 ?_
                  refine kz_top (y := ((82 + n * 4 + 3 : Nat) : Int)) (by omega) ?_
                  refine lv_iload hx hb dX2_addContract_107 (lv_at hl 6 rfl) ?_
                  refine kc_wi (va_runV (As := [.int (iz (((82 + n * 4 + 3 : Nat) : Int))), .int (iz (d2))]) (rest := []) ⟨hx, hb, hml, hown, hts⟩ (c_X2_replaced l D T H.size h0 h1 (zup (zup (zup Z (82 + n * 4 + 0) a) (82 + n * 4 + 1) b) (82 + n * 4 + 2) c2) ve (82 + n * 4 + 3) (by omega) d2) (cwV 2 hts gX2_addContract_X2_replaced rfl rfl rfl (by decide +kernel) ⟨Nat.le_of_ble_eq_true rfl, Nat.le_of_ble_eq_true rfl⟩) (kPc.v hK (va_recv hK.1 hP (ci := 2) (q0 := 0) rfl rfl) (kW.cut hP hD [0, 1] rfl (by rfl))) rfl rfl hl.1 rfl (lv_room (Nat.le_of_ble_eq_true rfl)) dX2_addContract_109 ⟨Nat.zero_le _, Nat.zero_le _⟩) hP hD hS hA [0, 1] rfl (fun _ => rfl) (fun r6 u H locs hr6 hP hD hS => ?_)
                  have hP : va_P D vwCl [(h0, .inr (2, [.ref h1, .int (iz (ve))])), (h1, .inl (T 0, 115, .inl (zA (zup (zup (zup (zup Z (82 + n * 4 + 0) a) (82 + n * 4 + 1) b) (82 + n * 4 + 2) c2) (82 + n * 4 + 3) d2))))] H := hP
                  have hD : va_D A [(h0, .inr (2, [.ref h1, .int (iz (ve))])), (h1, .inl (T 0, 115, .inl (zA (zup (zup (zup (zup Z (82 + n * 4 + 0) a) (82 + n * 4 + 1) b) (82 + n * 4 + 2) c2) (82 + n * 4 + 3) d2))))] := hD
                  subst hr6
                  refine lv_pop hx hb dX2_addContract_112 rfl ?_
                  refine lv_aload_n hx hb dX2_addContract_113 rfl (lv_at hl 2 rfl) ?_
                  refine va_get (D := D) (ci := 2) (C := RX2) (T := TX2) (N := 2) hx hb hts w3 hown hK.1 hP 0 rfl rfl 0 (by decide) w2 (fun _ h9 => h9) rfl dX2_addContract_114 ?_
                  refine lv_bipush (v := iz (114)) hx hb dX2_addContract_117 (by decide) ?_
                  refine lv_iload hx hb dX2_addContract_119 (lv_at hl 1 rfl) ?_
                  refine lv_iconst (v := iz (1)) hx hb dX2_addContract_121 (by decide) ?_
                  refine kz_add hx hb dX2_addContract_122 ?_
                  refine kz_iast hx hb hK hP hD hS (1) rfl (114) (by omega) (by omega) (by omega) dX2_addContract_123 (fun H locs hP hD hS => ?_)
                  have hP : va_P D vwCl [(h0, .inr (2, [.ref h1, .int (iz (ve))])), (h1, .inl (T 0, 115, .inl (zA (zup (zup (zup (zup (zup Z (82 + n * 4 + 0) a) (82 + n * 4 + 1) b) (82 + n * 4 + 2) c2) (82 + n * 4 + 3) d2) 114 (((n : Nat) : Int) + 1)))))] H := hP
                  have hD : va_D A [(h0, .inr (2, [.ref h1, .int (iz (ve))])), (h1, .inl (T 0, 115, .inl (zA (zup (zup (zup (zup (zup Z (82 + n * 4 + 0) a) (82 + n * 4 + 1) b) (82 + n * 4 + 2) c2) (82 + n * 4 + 3) d2) 114 (((n : Nat) : Int) + 1)))))] := hD
                  refine lv_aload_n hx hb dX2_addContract_124 rfl (lv_at hl 2 rfl) ?_
                  refine lv_dup hx hb dX2_addContract_125 rfl ?_
                  refine va_get (D := D) (ci := 2) (C := RX2) (T := TX2) (N := 2) hx hb hts w3 hown hK.1 hP 0 rfl rfl 1 (by decide) w4 (fun _ h9 => h9) rfl dX2_addContract_126 ?_
                  refine lv_iconst (v := iz (1)) hx hb dX2_addContract_129 (by decide) ?_
                  refine kz_add hx hb dX2_addContract_130 ?_
                  refine va_put (D := D) (ci := 2) (v := .int (iz (ve + 1))) (ty := .int) (C := RX2) (T := TX2) (N := 2) hx hb hts w3 tyX2 tyX2_ok nmX2 hown hK.1 hP hD hS 0 rfl rfl 1 (by decide) w4 (fun _ h9 => h9) rfl (by decide +kernel) rfl rfl (Nat.le_of_ble_eq_true rfl) dX2_addContract_131 (fun H locs hP hD hS => ?_)
                  have hP : va_P D vwCl [(h0, .inr (2, [.ref h1, .int (iz (ve + 1))])), (h1, .inl (T 0, 115, .inl (zA (zup (zup (zup (zup (zup Z (82 + n * 4 + 0) a) (82 + n * 4 + 1) b) (82 + n * 4 + 2) c2) (82 + n * 4 + 3) d2) 114 (((n : Nat) : Int) + 1)))))] H := hP
                  have hD : va_D A [(h0, .inr (2, [.ref h1, .int (iz (ve + 1))])), (h1, .inl (T 0, 115, .inl (zA (zup (zup (zup (zup (zup Z (82 + n * 4 + 0) a) (82 + n * 4 + 1) b) (82 + n * 4 + 2) c2) (82 + n * 4 + 3) d2) 114 (((n : Nat) : Int) + 1)))))] := hD
                  refine lv_iload hx hb dX2_addContract_134 (lv_at hl 1 rfl) ?_
                  have hZ : (ve + 1 : Int) = lk_vCon Z a b c2 d2 ve := (by unfold lk_vCon; split <;> omega)
                  have hP : va_P D vwCl [(h0, .inr (2, [.ref h1, .int (iz (lk_vCon Z a b c2 d2 ve))])), (h1, .inl (T 0, 115, .inl (zA (zup (zup (zup (zup (zup Z (82 + n * 4 + 0) a) (82 + n * 4 + 1) b) (82 + n * 4 + 2) c2) (82 + n * 4 + 3) d2) 114 (((n : Nat) : Int) + 1)))))] H := by rw [← hZ]; exact hP
                  have hD : va_D A [(h0, .inr (2, [.ref h1, .int (iz (lk_vCon Z a b c2 d2 ve))])), (h1, .inl (T 0, 115, .inl (zA (zup (zup (zup (zup (zup Z (82 + n * 4 + 0) a) (82 + n * 4 + 1) b) (82 + n * 4 + 2) c2) (82 + n * 4 + 3) d2) 114 (((n : Nat) : Int) + 1)))))] := by rw [← hZ]; exact hD
                  have hZ : (zup (zup (zup (zup (zup Z (82 + n * 4 + 0) a) (82 + n * 4 + 1) b) (82 + n * 4 + 2) c2) (82 + n * 4 + 3) d2) 114 (((n : Nat) : Int) + 1) : Nat → Int) = lk_zCon Z a b c2 d2 := (by unfold lk_zCon; rw [if_pos (by omega)]; unfold lk_lay; rw [hn]; rfl)
                  have hP : va_P D vwCl [(h0, .inr (2, [.ref h1, .int (iz (lk_vCon Z a b c2 d2 ve))])), (h1, .inl (T 0, 115, .inl (zA (lk_zCon Z a b c2 d2))))] H := by rw [← hZ]; exact hP
                  have hD : va_D A [(h0, .inr (2, [.ref h1, .int (iz (lk_vCon Z a b c2 d2 ve))])), (h1, .inl (T 0, 115, .inl (zA (lk_zCon Z a b c2 d2))))] := by rw [← hZ]; exact hD
                  exact W.iret hx hb hr (fun t ht hW => ⟨⟨_, (), rfl, (congrArg iz (by unfold lk_rCon; split <;> (try split) <;> (try split) <;> first | rfl | omega)), by show va_P _ _ _ t.heap; rw [ht]; exact hP⟩, hS.F ht⟩) hS.2.2 dX2_addContract_136
                · refine lv_bipush (v := iz (-4)) hx hb dX2_addContract_60 (by decide) ?_
                  have hZ : (ve : Int) = lk_vCon Z a b c2 d2 ve := (by unfold lk_vCon; split <;> omega)
                  have hP : va_P D vwCl [(h0, .inr (2, [.ref h1, .int (iz (lk_vCon Z a b c2 d2 ve))])), (h1, .inl (T 0, 115, .inl (zA Z)))] s.heap := by rw [← hZ]; exact hP
                  have hD : va_D A [(h0, .inr (2, [.ref h1, .int (iz (lk_vCon Z a b c2 d2 ve))])), (h1, .inl (T 0, 115, .inl (zA Z)))] := by rw [← hZ]; exact hD
                  have hZ : (Z : Nat → Int) = lk_zCon Z a b c2 d2 := (by unfold lk_zCon; split <;> first | rfl | omega)
                  have hP : va_P D vwCl [(h0, .inr (2, [.ref h1, .int (iz (lk_vCon Z a b c2 d2 ve))])), (h1, .inl (T 0, 115, .inl (zA (lk_zCon Z a b c2 d2))))] s.heap := by rw [← hZ]; exact hP
                  have hD : va_D A [(h0, .inr (2, [.ref h1, .int (iz (lk_vCon Z a b c2 d2 ve))])), (h1, .inl (T 0, 115, .inl (zA (lk_zCon Z a b c2 d2))))] := by rw [← hZ]; exact hD
                  exact W.iret hx hb hr (fun t ht hW => ⟨⟨_, (), rfl, (congrArg iz (by unfold lk_rCon; split <;> (try split) <;> (try split) <;> first | rfl | omega)), by show va_P _ _ _ t.heap; rw [ht]; exact hP⟩, hS.F ht⟩) hS.2.2 dX2_addContract_62
              · refine lv_bipush (v := iz (-2)) hx hb dX2_addContract_44 (by decide) ?_
                have hZ : (ve : Int) = lk_vCon Z a b c2 d2 ve := (by unfold lk_vCon; split <;> omega)
                have hP : va_P D vwCl [(h0, .inr (2, [.ref h1, .int (iz (lk_vCon Z a b c2 d2 ve))])), (h1, .inl (T 0, 115, .inl (zA Z)))] s.heap := by rw [← hZ]; exact hP
                have hD : va_D A [(h0, .inr (2, [.ref h1, .int (iz (lk_vCon Z a b c2 d2 ve))])), (h1, .inl (T 0, 115, .inl (zA Z)))] := by rw [← hZ]; exact hD
                have hZ : (Z : Nat → Int) = lk_zCon Z a b c2 d2 := (by unfold lk_zCon; split <;> first | rfl | omega)
                have hP : va_P D vwCl [(h0, .inr (2, [.ref h1, .int (iz (lk_vCon Z a b c2 d2 ve))])), (h1, .inl (T 0, 115, .inl (zA (lk_zCon Z a b c2 d2))))] s.heap := by rw [← hZ]; exact hP
                have hD : va_D A [(h0, .inr (2, [.ref h1, .int (iz (lk_vCon Z a b c2 d2 ve))])), (h1, .inl (T 0, 115, .inl (zA (lk_zCon Z a b c2 d2))))] := by rw [← hZ]; exact hD
                exact W.iret hx hb hr (fun t ht hW => ⟨⟨_, (), rfl, (congrArg iz (by unfold lk_rCon; split <;> (try split) <;> (try split) <;> first | rfl | omega)), by show va_P _ _ _ t.heap; rw [ht]; exact hP⟩, hS.F ht⟩) hS.2.2 dX2_addContract_46
  · refine lv_iconst (v := iz (-1)) hx hb dX2_addContract_7 (by decide) ?_
    have hZ : (ve : Int) = lk_vCon Z a b c2 d2 ve := (by unfold lk_vCon; split <;> omega)
    have hP : va_P D vwCl [(h0, .inr (2, [.ref h1, .int (iz (lk_vCon Z a b c2 d2 ve))])), (h1, .inl (T 0, 115, .inl (zA Z)))] s.heap := by rw [← hZ]; exact hP
    have hD : va_D A [(h0, .inr (2, [.ref h1, .int (iz (lk_vCon Z a b c2 d2 ve))])), (h1, .inl (T 0, 115, .inl (zA Z)))] := by rw [← hZ]; exact hD
    have hZ : (Z : Nat → Int) = lk_zCon Z a b c2 d2 := (by unfold lk_zCon; split <;> first | rfl | omega)
    have hP : va_P D vwCl [(h0, .inr (2, [.ref h1, .int (iz (lk_vCon Z a b c2 d2 ve))])), (h1, .inl (T 0, 115, .inl (zA (lk_zCon Z a b c2 d2))))] s.heap := by rw [← hZ]; exact hP
    have hD : va_D A [(h0, .inr (2, [.ref h1, .int (iz (lk_vCon Z a b c2 d2 ve))])), (h1, .inl (T 0, 115, .inl (zA (lk_zCon Z a b c2 d2))))] := by rw [← hZ]; exact hD
    exact W.iret hx hb hr (fun t ht hW => ⟨⟨_, (), rfl, (congrArg iz (by unfold lk_rCon; split <;> (try split) <;> (try split) <;> first | rfl | omega)), by show va_P _ _ _ t.heap; rw [ht]; exact hP⟩, hS.F ht⟩) hS.2.2 dX2_addContract_8
set_option maxHeartbeats 4000000 in
set_option maxRecDepth 100000 in
theorem c_X2_removeContract (l : Launch) (D : va_G) (T : Nat → ClassId) (sz : Nat) (h0 : Nat) (h1 : Nat) (Z : Nat → Int) (ve : Int) (a : Int) (hia : -2147483648 ≤ a ∧ a < 2147483648) (hV : VL Z) : Met l yX2_removeContract wsX2_removeContract ({ frames := 2, cells := 0, slots := 0, locals := 41 }) (kPc D T [.ref h0, .int (iz (a))] (kW D sz [(h0, .inr (2, [.ref h1, .int (iz (ve))])), (h1, .inl (T 0, 115, .inl (zA Z)))])) (va_Qi (fun (r : Int32) (u : Unit) => r = iz (lk_rDrop Z a)) (fun (u : Unit) (t : State) => va_P D vwCl [(h0, .inr (2, [.ref h1, .int (iz (lk_vDrop Z a ve))])), (h1, .inl (T 0, 115, .inl (zA (lk_zDrop Z a))))] t.heap) (va_A [(h0, .inr (2, [.ref h1, .int (iz (ve))])), (h1, .inl (T 0, 115, .inl (zA Z)))] sz)) 0 0 (va_A [(h0, .inr (2, [.ref h1, .int (iz (ve))])), (h1, .inl (T 0, 115, .inl (zA Z)))] sz) := by
  refine Met.ofW (cc := cX2_removeContract) (maxL := 3) (ret := (some .int)) (by decide) rfl ?_
  intro p e s m args below meth c s₁ B hml hv
  obtain ⟨rfl, hK, hsz, hP, hD0⟩ := hv
  have hx := B.exec
  have hb := B.bytes
  have hr := B.returns
  have hts := atoms_spec (ws := wsX2_removeContract) B.pre
  have hown : s.vm.findClass RX2 = some m.cls := findClass_of_methodNamed B.named
  have hlocks := B.notSynchronized
  have w0 := hts (.fieldLink RX2 11 "LakePlant$Lake" "cells" "[I") (List.mem_of_getElem? (i := 1) rfl)
  have w1 : ∀ w ∈ wsX20, w ∈ wsX2_removeContract := by decide +kernel
  have w2 := hts (.fieldLink RX2 15 "LakePlant$Lake" "version" "I") (List.mem_of_getElem? (i := 2) rfl)
  subst hsz
  have hD := hD0.self (sz := s.heap.size)
  generalize hAe : va_A [(h0, .inr (2, [.ref h1, .int (iz (ve))])), (h1, .inl (T 0, 115, .inl (zA Z)))] s.heap.size = A at hD ⊢
  have hA : ∀ q : Nat, s.heap.size ≤ q → A q := fun q h => by rw [← hAe]; exact Or.inr h
  have hS : va_S A s.heap s.heap [] := va_S.rf
  have hP : va_P D vwCl [(h0, .inr (2, [.ref h1, .int (iz (ve))])), (h1, .inl (T 0, 115, .inl (zA Z)))] s.heap := hP
  have hl := lv_entry ([.ref h0, .int (iz (a))]) (n := 3) (Nat.le_of_ble_eq_true rfl)
  rw [lg_entry_eq]
  generalize (lg_sl ([.ref h0, .int (iz (a))]) ++ List.replicate (3 - (lg_sl ([.ref h0, .int (iz (a))])).length) Slot.unset).toArray = ls at hl ⊢
  have hl : lv_has ls 3 [(0, .ref h0), (1, .int (iz (a)))] := hl
  have hs := hV.1
  unfold VS at hs
  refine lv_aload_n hx hb dX2_removeContract_0 rfl (lv_at hl 0 rfl) ?_
  refine lv_iload_n hx hb dX2_removeContract_1 rfl (lv_at hl 1 rfl) ?_
  refine kc_i (va_runV (As := [.int (iz (a))]) (rest := []) ⟨hx, hb, hml, hown, hts⟩ (c_X2_isContract l D T h0 h1 Z ve a (by omega) hV) (cwV 1 hts gX2_removeContract_X2_isContract rfl rfl rfl (by decide +kernel) ⟨Nat.le_of_ble_eq_true rfl, Nat.le_of_ble_eq_true rfl⟩) (kPc.v hK (va_recv hK.1 hP (ci := 2) (q0 := 0) rfl rfl) (kcut hP [0, 1] rfl)) rfl rfl hl.1 rfl (lv_room (Nat.le_of_ble_eq_true rfl)) dX2_removeContract_2 ⟨Nat.zero_le _, Nat.zero_le _⟩) (fun r1 hr1 => ?_)
  subst hr1
  refine kz_if_ne (tgt := 10) hx hb dX2_removeContract_5 (by decide) (by omega) (fun c5 => ?_) (fun c5 => ?_)
  · have hin : 0 ≤ a ∧ a < Z 114 := by omega
    refine lv_bipush (v := iz (82)) hx hb dX2_removeContract_10 (by decide) ?_
    refine lv_iload_n hx hb dX2_removeContract_12 rfl (lv_at hl 1 rfl) ?_
    refine lv_iconst (v := iz (4)) hx hb dX2_removeContract_13 (by decide) ?_
    refine kz_mul hx hb dX2_removeContract_14 ?_
    refine kz_add hx hb dX2_removeContract_15 ?_
    refine lv_istore_n (lv' := [(2, .int (iz (82 + (a * 4)))), (0, .ref h0), (1, .int (iz (a)))]) hx hb dX2_removeContract_16 rfl hl (by decide) rfl (fun ls hl => ?_)
    have hl : lv_has ls 3 [(2, .int (iz (((82 + a.toNat * 4 : Nat) : Int)))), (0, .ref h0), (1, .int (iz (a)))] := by rw [← (show (82 + (a * 4) : Int) = ((82 + a.toNat * 4 : Nat) : Int) from (by omega))]; exact hl
    have hZ : (Z : Nat → Int) = lk_up Z (82 + a.toNat * 4) (82 + a.toNat * 4) := (by funext k; unfold lk_up; rw [if_neg (by omega)])
    have hP : va_P D vwCl [(h0, .inr (2, [.ref h1, .int (iz (ve))])), (h1, .inl (T 0, 115, .inl (zA (lk_up Z (82 + a.toNat * 4) (82 + a.toNat * 4)))))] s.heap := by rw [← hZ]; exact hP
    have hD : va_D A [(h0, .inr (2, [.ref h1, .int (iz (ve))])), (h1, .inl (T 0, 115, .inl (zA (lk_up Z (82 + a.toNat * 4) (82 + a.toNat * 4)))))] := by rw [← hZ]; exact hD
    refine kz_loopW1 (pc := 17) (I := fun (n : Nat) (H : Heap) (locs : List Loc) (ls : Array Slot) => (82 + a.toNat * 4 ≤ n) ∧ (n ≤ 110) ∧ va_P D vwCl [(h0, .inr (2, [.ref h1, .int (iz (ve))])), (h1, .inl (T 0, 115, .inl (zA (lk_up Z (82 + a.toNat * 4) n))))] H ∧ va_D A [(h0, .inr (2, [.ref h1, .int (iz (ve))])), (h1, .inl (T 0, 115, .inl (zA (lk_up Z (82 + a.toNat * 4) n))))] ∧ va_S A s.heap H locs ∧ lv_has ls 3 [(0, .ref h0), (1, .int (iz (a))), (2, .int (iz (((n : Nat) : Int))))]) (μ := fun (n : Nat) => 110 - n) (82 + a.toNat * 4) ⟨(by omega), (by omega), hP, hD, hS, lv_sub hl [1, 2, 0] rfl⟩ ?_
    rintro n H locs ls ⟨hn, hn2, hP, hD, hS, hl⟩ ih17
    refine lv_iload_n hx hb dX2_removeContract_17 rfl (lv_at hl 2 rfl) ?_
    refine lv_iconst (v := iz (4)) hx hb dX2_removeContract_18 (by decide) ?_
    refine kz_add hx hb dX2_removeContract_19 ?_
    refine lv_bipush (v := iz (114)) hx hb dX2_removeContract_20 (by decide) ?_
    refine kz_icmp_ge (tgt := 45) hx hb dX2_removeContract_22 (by decide) (by omega) (by omega) (fun c22 => ?_) (fun c22 => ?_)
    · have hnn : n = 110 := by omega
      subst hnn
      have hl : lv_has ls 3 [(0, .ref h0), (1, .int (iz (a))), (2, .int (iz (((110 : Nat) : Int))))] := hl
      refine lv_aload_n hx hb dX2_removeContract_45 rfl (lv_at hl 0 rfl) ?_
      refine va_get (D := D) (ci := 2) (C := RX2) (T := TX2) (N := 2) hx hb hts w1 hown hK.1 hP 0 rfl rfl 0 (by decide) w0 (fun _ h9 => h9) rfl dX2_removeContract_46 ?_
      refine lv_bipush (v := iz (114)) hx hb dX2_removeContract_49 (by decide) ?_
      refine lv_dup2_11 hx hb dX2_removeContract_51 rfl rfl ?_
      refine kz_iald hx hb hK hP (1) rfl (114) (by omega) (by omega) (by omega) dX2_removeContract_52 ?_
      refine kz_top (y := Z 114) (by unfold lk_up; rw [if_neg (by omega)]) ?_
      refine lv_iconst (v := iz (1)) hx hb dX2_removeContract_53 (by decide) ?_
      refine kz_sub hx hb dX2_removeContract_54 ?_
      refine kz_iast hx hb hK hP hD hS (1) rfl (114) (by omega) (by omega) (by omega) dX2_removeContract_55 (fun H locs hP hD hS => ?_)
      have hP : va_P D vwCl [(h0, .inr (2, [.ref h1, .int (iz (ve))])), (h1, .inl (T 0, 115, .inl (zA (zup (lk_up Z (82 + a.toNat * 4) 110) 114 ((Z 114) - 1)))))] H := hP
      have hD : va_D A [(h0, .inr (2, [.ref h1, .int (iz (ve))])), (h1, .inl (T 0, 115, .inl (zA (zup (lk_up Z (82 + a.toNat * 4) 110) 114 ((Z 114) - 1)))))] := hD
      refine lv_aload_n hx hb dX2_removeContract_56 rfl (lv_at hl 0 rfl) ?_
      refine lv_dup hx hb dX2_removeContract_57 rfl ?_
      refine va_get (D := D) (ci := 2) (C := RX2) (T := TX2) (N := 2) hx hb hts w1 hown hK.1 hP 0 rfl rfl 1 (by decide) w2 (fun _ h9 => h9) rfl dX2_removeContract_58 ?_
      refine lv_iconst (v := iz (1)) hx hb dX2_removeContract_61 (by decide) ?_
      refine kz_add hx hb dX2_removeContract_62 ?_
      refine va_put (D := D) (ci := 2) (v := .int (iz (ve + 1))) (ty := .int) (C := RX2) (T := TX2) (N := 2) hx hb hts w1 tyX2 tyX2_ok nmX2 hown hK.1 hP hD hS 0 rfl rfl 1 (by decide) w2 (fun _ h9 => h9) rfl (by decide +kernel) rfl rfl (Nat.le_of_ble_eq_true rfl) dX2_removeContract_63 (fun H locs hP hD hS => ?_)
      have hP : va_P D vwCl [(h0, .inr (2, [.ref h1, .int (iz (ve + 1))])), (h1, .inl (T 0, 115, .inl (zA (zup (lk_up Z (82 + a.toNat * 4) 110) 114 ((Z 114) - 1)))))] H := hP
      have hD : va_D A [(h0, .inr (2, [.ref h1, .int (iz (ve + 1))])), (h1, .inl (T 0, 115, .inl (zA (zup (lk_up Z (82 + a.toNat * 4) 110) 114 ((Z 114) - 1)))))] := hD
      refine lv_aload_n hx hb dX2_removeContract_66 rfl (lv_at hl 0 rfl) ?_
      refine kc_i (va_runV (As := []) (rest := []) ⟨hx, hb, hml, hown, hts⟩ (c_X2_contracts l D T h0 h1 (zup (lk_up Z (82 + a.toNat * 4) 110) 114 ((Z 114) - 1)) (ve + 1)) (cwV 0 hts gX2_removeContract_X2_contracts rfl rfl rfl (by decide +kernel) ⟨Nat.le_of_ble_eq_true rfl, Nat.le_of_ble_eq_true rfl⟩) (kPc.v hK (va_recv hK.1 hP (ci := 2) (q0 := 0) rfl rfl) (kcut hP [0, 1] rfl)) rfl rfl hl.1 rfl (lv_room (Nat.le_of_ble_eq_true rfl)) dX2_removeContract_67 ⟨Nat.zero_le _, Nat.zero_le _⟩) (fun r2 hr2 => ?_)
      subst hr2
      refine kz_top (y := Z 114 - 1) (zup_s _ _ _) ?_
      have hZ : (ve + 1 : Int) = lk_vDrop Z a ve := (by unfold lk_vDrop; split <;> omega)
      have hP : va_P D vwCl [(h0, .inr (2, [.ref h1, .int (iz (lk_vDrop Z a ve))])), (h1, .inl (T 0, 115, .inl (zA (zup (lk_up Z (82 + a.toNat * 4) 110) 114 ((Z 114) - 1)))))] H := by rw [← hZ]; exact hP
      have hD : va_D A [(h0, .inr (2, [.ref h1, .int (iz (lk_vDrop Z a ve))])), (h1, .inl (T 0, 115, .inl (zA (zup (lk_up Z (82 + a.toNat * 4) 110) 114 ((Z 114) - 1)))))] := by rw [← hZ]; exact hD
      have hZ : (zup (lk_up Z (82 + a.toNat * 4) 110) 114 ((Z 114) - 1) : Nat → Int) = lk_zDrop Z a := (by unfold lk_zDrop; split <;> first | rfl | omega)
      have hP : va_P D vwCl [(h0, .inr (2, [.ref h1, .int (iz (lk_vDrop Z a ve))])), (h1, .inl (T 0, 115, .inl (zA (lk_zDrop Z a))))] H := by rw [← hZ]; exact hP
      have hD : va_D A [(h0, .inr (2, [.ref h1, .int (iz (lk_vDrop Z a ve))])), (h1, .inl (T 0, 115, .inl (zA (lk_zDrop Z a))))] := by rw [← hZ]; exact hD
      exact W.iret hx hb hr (fun t ht hW => ⟨⟨_, (), rfl, (congrArg iz (by unfold lk_rDrop; split <;> omega)), by show va_P _ _ _ t.heap; rw [ht]; exact hP⟩, hS.F ht⟩) hS.2.2 dX2_removeContract_70
    · refine lv_aload_n hx hb dX2_removeContract_25 rfl (lv_at hl 0 rfl) ?_
      refine va_get (D := D) (ci := 2) (C := RX2) (T := TX2) (N := 2) hx hb hts w1 hown hK.1 hP 0 rfl rfl 0 (by decide) w0 (fun _ h9 => h9) rfl dX2_removeContract_26 ?_
      refine lv_iload_n hx hb dX2_removeContract_29 rfl (lv_at hl 2 rfl) ?_
      refine lv_aload_n hx hb dX2_removeContract_30 rfl (lv_at hl 0 rfl) ?_
      refine va_get (D := D) (ci := 2) (C := RX2) (T := TX2) (N := 2) hx hb hts w1 hown hK.1 hP 0 rfl rfl 0 (by decide) w0 (fun _ h9 => h9) rfl dX2_removeContract_31 ?_
      refine lv_iload_n hx hb dX2_removeContract_34 rfl (lv_at hl 2 rfl) ?_
      refine lv_iconst (v := iz (4)) hx hb dX2_removeContract_35 (by decide) ?_
      refine kz_add hx hb dX2_removeContract_36 ?_
      refine kz_iald hx hb hK hP (1) rfl (n + 4) (by omega) (by omega) (by omega) dX2_removeContract_37 ?_
      refine kz_iast hx hb hK hP hD hS (1) rfl (n) (by omega) (by omega) (by omega) dX2_removeContract_38 (fun H locs hP hD hS => ?_)
      have hP : va_P D vwCl [(h0, .inr (2, [.ref h1, .int (iz (ve))])), (h1, .inl (T 0, 115, .inl (zA (zup (lk_up Z (82 + a.toNat * 4) n) n ((lk_up Z (82 + a.toNat * 4) n) (n + 4))))))] H := hP
      have hD : va_D A [(h0, .inr (2, [.ref h1, .int (iz (ve))])), (h1, .inl (T 0, 115, .inl (zA (zup (lk_up Z (82 + a.toNat * 4) n) n ((lk_up Z (82 + a.toNat * 4) n) (n + 4))))))] := hD
      refine kz_iinc (b := ((n + 1 : Nat) : Int)) (lv' := [(2, .int (iz (((n + 1 : Nat) : Int)))), (0, .ref h0), (1, .int (iz (a)))]) hx hb dX2_removeContract_39 hl (k := 2) rfl (by omega) (by decide) rfl (fun ls hl => ?_)
      refine lv_goto (tgt := 17) hx hb dX2_removeContract_42 (by decide) ?_
      have hZ : (zup (lk_up Z (82 + a.toNat * 4) n) n ((lk_up Z (82 + a.toNat * 4) n) (n + 4)) : Nat → Int) = lk_up Z (82 + a.toNat * 4) (n + 1) := (lk_up_s hn)
      have hP : va_P D vwCl [(h0, .inr (2, [.ref h1, .int (iz (ve))])), (h1, .inl (T 0, 115, .inl (zA (lk_up Z (82 + a.toNat * 4) (n + 1)))))] H := by rw [← hZ]; exact hP
      have hD : va_D A [(h0, .inr (2, [.ref h1, .int (iz (ve))])), (h1, .inl (T 0, 115, .inl (zA (lk_up Z (82 + a.toNat * 4) (n + 1)))))] := by rw [← hZ]; exact hD
      exact ih17 (n + 1) _ _ _ ⟨(by omega), (by omega), hP, hD, hS, lv_sub hl [1, 2, 0] rfl⟩ (by omega)
  · refine lv_iconst (v := iz (-1)) hx hb dX2_removeContract_8 (by decide) ?_
    have hZ : (ve : Int) = lk_vDrop Z a ve := (by unfold lk_vDrop; split <;> omega)
    have hP : va_P D vwCl [(h0, .inr (2, [.ref h1, .int (iz (lk_vDrop Z a ve))])), (h1, .inl (T 0, 115, .inl (zA Z)))] s.heap := by rw [← hZ]; exact hP
    have hD : va_D A [(h0, .inr (2, [.ref h1, .int (iz (lk_vDrop Z a ve))])), (h1, .inl (T 0, 115, .inl (zA Z)))] := by rw [← hZ]; exact hD
    have hZ : (Z : Nat → Int) = lk_zDrop Z a := (by unfold lk_zDrop; split <;> first | rfl | omega)
    have hP : va_P D vwCl [(h0, .inr (2, [.ref h1, .int (iz (lk_vDrop Z a ve))])), (h1, .inl (T 0, 115, .inl (zA (lk_zDrop Z a))))] s.heap := by rw [← hZ]; exact hP
    have hD : va_D A [(h0, .inr (2, [.ref h1, .int (iz (lk_vDrop Z a ve))])), (h1, .inl (T 0, 115, .inl (zA (lk_zDrop Z a))))] := by rw [← hZ]; exact hD
    exact W.iret hx hb hr (fun t ht hW => ⟨⟨_, (), rfl, (congrArg iz (by unfold lk_rDrop; split <;> omega)), by show va_P _ _ _ t.heap; rw [ht]; exact hP⟩, hS.F ht⟩) hS.2.2 dX2_removeContract_9
