set_option maxHeartbeats 4000000 in
set_option maxRecDepth 100000 in
theorem c_X6_isHour (l : Launch) (D : va_G) (T : Nat → ClassId) (k : Int) (hk : -2147483648 ≤ k ∧ k < 2147483648) : Met l yX6_isHour wsX6_isHour ({ frames := 0, cells := 0, slots := 0, locals := 0 }) (kPc D T [.int (iz (k))] (va_P D vwCl [])) (vp_Si (fun r : Int32 => r = iz (if 0 ≤ k ∧ k < 24 then 1 else 0))) 0 0 (fun _ => False) := by
  refine Met.ofW (cc := cX6_isHour) (maxL := 1) (ret := (some .boolean)) (by decide) rfl ?_
  intro p e s m args below meth c s₁ B hml hv
  obtain ⟨rfl, hK, hP⟩ := hv
  have hx := B.exec
  have hb := B.bytes
  have hr := B.returns
  have hts := atoms_spec (ws := wsX6_isHour) B.pre
  have hown : s.vm.findClass RX6 = some m.cls := findClass_of_methodNamed B.named
  have hlocks := B.notSynchronized
  have hP : va_P D vwCl [] s.heap := hP
  have hl := lv_entry ([.int (iz (k))]) (n := 1) (Nat.le_of_ble_eq_true rfl)
  rw [lg_entry_eq]
  generalize (lg_sl ([.int (iz (k))]) ++ List.replicate (1 - (lg_sl ([.int (iz (k))])).length) Slot.unset).toArray = ls at hl ⊢
  have hl : lv_has ls 1 [(0, .int (iz (k)))] := hl
  refine lv_iload_n hx hb dX6_isHour_0 rfl (lv_at hl 0 rfl) ?_
  refine kz_if_lt (tgt := 14) hx hb dX6_isHour_1 (by decide) (by omega) (fun c1 => ?_) (fun c1 => ?_)
  · refine lv_iconst (v := iz (0)) hx hb dX6_isHour_14 (by decide) ?_
    exact W.zret hx hb hr (kz_nar (by omega)) (fun t ht _ => ⟨_, rfl, (congrArg iz (by first | rfl | omega)), ht⟩) (fun _ h => absurd h List.not_mem_nil) dX6_isHour_15
  · refine lv_iload_n hx hb dX6_isHour_4 rfl (lv_at hl 0 rfl) ?_
    refine lv_bipush (v := iz (24)) hx hb dX6_isHour_5 (by decide) ?_
    refine kz_icmp_ge (tgt := 14) hx hb dX6_isHour_7 (by decide) (by omega) (by omega) (fun c7 => ?_) (fun c7 => ?_)
    · refine lv_iconst (v := iz (0)) hx hb dX6_isHour_14 (by decide) ?_
      exact W.zret hx hb hr (kz_nar (by omega)) (fun t ht _ => ⟨_, rfl, (congrArg iz (by first | rfl | omega)), ht⟩) (fun _ h => absurd h List.not_mem_nil) dX6_isHour_15
    · refine lv_iconst (v := iz (1)) hx hb dX6_isHour_10 (by decide) ?_
      refine lv_goto (tgt := 15) hx hb dX6_isHour_11 (by decide) ?_
      exact W.zret hx hb hr (kz_nar (by omega)) (fun t ht _ => ⟨_, rfl, (congrArg iz (by first | rfl | omega)), ht⟩) (fun _ h => absurd h List.not_mem_nil) dX6_isHour_15
set_option maxHeartbeats 4000000 in
set_option maxRecDepth 100000 in
theorem c_X2_settingOf (l : Launch) (D : va_G) (T : Nat → ClassId) (h0 : Nat) (h1 : Nat) (Z : Nat → Int) (ve : Int) (k : Nat) (hk : k < 10) : Met l yX2_settingOf wsX2_settingOf ({ frames := 0, cells := 0, slots := 0, locals := 0 }) (kPc D T [.ref h0, .int (iz (((k : Nat) : Int)))] (va_P D vwCl [(h0, .inr (2, [.ref h1, .int (iz (ve))])), (h1, .inl (T 0, 115, .inl (zA Z)))])) (vp_Si (fun r : Int32 => r = iz (Z k))) 0 0 (fun _ => False) := by
  refine Met.ofW (cc := cX2_settingOf) (maxL := 2) (ret := (some .int)) (by decide) rfl ?_
  intro p e s m args below meth c s₁ B hml hv
  obtain ⟨rfl, hK, hP⟩ := hv
  have hx := B.exec
  have hb := B.bytes
  have hr := B.returns
  have hts := atoms_spec (ws := wsX2_settingOf) B.pre
  have hown : s.vm.findClass RX2 = some m.cls := findClass_of_methodNamed B.named
  have hlocks := B.notSynchronized
  have w0 := hts (.fieldLink RX2 11 "LakePlant$Lake" "cells" "[I") (List.mem_of_getElem? (i := 1) rfl)
  have w1 : ∀ w ∈ wsX20, w ∈ wsX2_settingOf := by decide +kernel
  have hP : va_P D vwCl [(h0, .inr (2, [.ref h1, .int (iz (ve))])), (h1, .inl (T 0, 115, .inl (zA Z)))] s.heap := hP
  have hl := lv_entry ([.ref h0, .int (iz (((k : Nat) : Int)))]) (n := 2) (Nat.le_of_ble_eq_true rfl)
  rw [lg_entry_eq]
  generalize (lg_sl ([.ref h0, .int (iz (((k : Nat) : Int)))]) ++ List.replicate (2 - (lg_sl ([.ref h0, .int (iz (((k : Nat) : Int)))])).length) Slot.unset).toArray = ls at hl ⊢
  have hl : lv_has ls 2 [(0, .ref h0), (1, .int (iz (((k : Nat) : Int))))] := hl
  refine lv_iload_n hx hb dX2_settingOf_0 rfl (lv_at hl 1 rfl) ?_
  refine kz_if_lt (tgt := 19) hx hb dX2_settingOf_1 (by decide) (by omega) (fun c1 => False.elim (by omega)) (fun c1 => ?_)
  refine lv_iload_n hx hb dX2_settingOf_4 rfl (lv_at hl 1 rfl) ?_
  refine lv_bipush (v := iz (10)) hx hb dX2_settingOf_5 (by decide) ?_
  refine kz_icmp_ge (tgt := 19) hx hb dX2_settingOf_7 (by decide) (by omega) (by omega) (fun c7 => False.elim (by omega)) (fun c7 => ?_)
  refine lv_aload_n hx hb dX2_settingOf_10 rfl (lv_at hl 0 rfl) ?_
  refine va_get (D := D) (ci := 2) (C := RX2) (T := TX2) (N := 2) hx hb hts w1 hown hK.1 hP 0 rfl rfl 0 (by decide) w0 (fun _ h9 => h9) rfl dX2_settingOf_11 ?_
  refine lv_iload_n hx hb dX2_settingOf_14 rfl (lv_at hl 1 rfl) ?_
  refine kz_iald hx hb hK hP (1) rfl (k) (by omega) (by omega) (by omega) dX2_settingOf_15 ?_
  refine lv_goto (tgt := 20) hx hb dX2_settingOf_16 (by decide) ?_
  exact W.iret hx hb hr (fun t ht _ => ⟨_, rfl, (congrArg iz (by first | rfl | omega)), ht⟩) (fun _ h => absurd h List.not_mem_nil) dX2_settingOf_20
set_option maxHeartbeats 4000000 in
set_option maxRecDepth 100000 in
theorem c_X2_priceOf (l : Launch) (D : va_G) (T : Nat → ClassId) (h0 : Nat) (h1 : Nat) (Z : Nat → Int) (ve : Int) (k : Nat) (hk : k < 24) : Met l yX2_priceOf wsX2_priceOf ({ frames := 0, cells := 0, slots := 0, locals := 0 }) (kPc D T [.ref h0, .int (iz (((k : Nat) : Int)))] (va_P D vwCl [(h0, .inr (2, [.ref h1, .int (iz (ve))])), (h1, .inl (T 0, 115, .inl (zA Z)))])) (vp_Si (fun r : Int32 => r = iz (Z (10 + k)))) 0 0 (fun _ => False) := by
  refine Met.ofW (cc := cX2_priceOf) (maxL := 2) (ret := (some .int)) (by decide) rfl ?_
  intro p e s m args below meth c s₁ B hml hv
  obtain ⟨rfl, hK, hP⟩ := hv
  have hx := B.exec
  have hb := B.bytes
  have hr := B.returns
  have hts := atoms_spec (ws := wsX2_priceOf) B.pre
  have hown : s.vm.findClass RX2 = some m.cls := findClass_of_methodNamed B.named
  have hlocks := B.notSynchronized
  have w0 := hts (.fieldLink RX2 11 "LakePlant$Lake" "cells" "[I") (List.mem_of_getElem? (i := 1) rfl)
  have w1 : ∀ w ∈ wsX20, w ∈ wsX2_priceOf := by decide +kernel
  have hP : va_P D vwCl [(h0, .inr (2, [.ref h1, .int (iz (ve))])), (h1, .inl (T 0, 115, .inl (zA Z)))] s.heap := hP
  have hl := lv_entry ([.ref h0, .int (iz (((k : Nat) : Int)))]) (n := 2) (Nat.le_of_ble_eq_true rfl)
  rw [lg_entry_eq]
  generalize (lg_sl ([.ref h0, .int (iz (((k : Nat) : Int)))]) ++ List.replicate (2 - (lg_sl ([.ref h0, .int (iz (((k : Nat) : Int)))])).length) Slot.unset).toArray = ls at hl ⊢
  have hl : lv_has ls 2 [(0, .ref h0), (1, .int (iz (((k : Nat) : Int))))] := hl
  refine lv_iload_n hx hb dX2_priceOf_0 rfl (lv_at hl 1 rfl) ?_
  refine kz_if_lt (tgt := 22) hx hb dX2_priceOf_1 (by decide) (by omega) (fun c1 => False.elim (by omega)) (fun c1 => ?_)
  refine lv_iload_n hx hb dX2_priceOf_4 rfl (lv_at hl 1 rfl) ?_
  refine lv_bipush (v := iz (24)) hx hb dX2_priceOf_5 (by decide) ?_
  refine kz_icmp_ge (tgt := 22) hx hb dX2_priceOf_7 (by decide) (by omega) (by omega) (fun c7 => False.elim (by omega)) (fun c7 => ?_)
  refine lv_aload_n hx hb dX2_priceOf_10 rfl (lv_at hl 0 rfl) ?_
  refine va_get (D := D) (ci := 2) (C := RX2) (T := TX2) (N := 2) hx hb hts w1 hown hK.1 hP 0 rfl rfl 0 (by decide) w0 (fun _ h9 => h9) rfl dX2_priceOf_11 ?_
  refine lv_bipush (v := iz (10)) hx hb dX2_priceOf_14 (by decide) ?_
  refine lv_iload_n hx hb dX2_priceOf_16 rfl (lv_at hl 1 rfl) ?_
  refine kz_add hx hb dX2_priceOf_17 ?_
  refine kz_iald hx hb hK hP (1) rfl (10 + k) (by omega) (by omega) (by omega) dX2_priceOf_18 ?_
  refine lv_goto (tgt := 23) hx hb dX2_priceOf_19 (by decide) ?_
  exact W.iret hx hb hr (fun t ht _ => ⟨_, rfl, (congrArg iz (by first | rfl | omega)), ht⟩) (fun _ h => absurd h List.not_mem_nil) dX2_priceOf_23
set_option maxHeartbeats 4000000 in
set_option maxRecDepth 100000 in
theorem c_X2_inflowOf (l : Launch) (D : va_G) (T : Nat → ClassId) (h0 : Nat) (h1 : Nat) (Z : Nat → Int) (ve : Int) (k : Nat) (hk : k < 24) : Met l yX2_inflowOf wsX2_inflowOf ({ frames := 0, cells := 0, slots := 0, locals := 0 }) (kPc D T [.ref h0, .int (iz (((k : Nat) : Int)))] (va_P D vwCl [(h0, .inr (2, [.ref h1, .int (iz (ve))])), (h1, .inl (T 0, 115, .inl (zA Z)))])) (vp_Si (fun r : Int32 => r = iz (Z (34 + k)))) 0 0 (fun _ => False) := by
  refine Met.ofW (cc := cX2_inflowOf) (maxL := 2) (ret := (some .int)) (by decide) rfl ?_
  intro p e s m args below meth c s₁ B hml hv
  obtain ⟨rfl, hK, hP⟩ := hv
  have hx := B.exec
  have hb := B.bytes
  have hr := B.returns
  have hts := atoms_spec (ws := wsX2_inflowOf) B.pre
  have hown : s.vm.findClass RX2 = some m.cls := findClass_of_methodNamed B.named
  have hlocks := B.notSynchronized
  have w0 := hts (.fieldLink RX2 11 "LakePlant$Lake" "cells" "[I") (List.mem_of_getElem? (i := 1) rfl)
  have w1 : ∀ w ∈ wsX20, w ∈ wsX2_inflowOf := by decide +kernel
  have hP : va_P D vwCl [(h0, .inr (2, [.ref h1, .int (iz (ve))])), (h1, .inl (T 0, 115, .inl (zA Z)))] s.heap := hP
  have hl := lv_entry ([.ref h0, .int (iz (((k : Nat) : Int)))]) (n := 2) (Nat.le_of_ble_eq_true rfl)
  rw [lg_entry_eq]
  generalize (lg_sl ([.ref h0, .int (iz (((k : Nat) : Int)))]) ++ List.replicate (2 - (lg_sl ([.ref h0, .int (iz (((k : Nat) : Int)))])).length) Slot.unset).toArray = ls at hl ⊢
  have hl : lv_has ls 2 [(0, .ref h0), (1, .int (iz (((k : Nat) : Int))))] := hl
  refine lv_iload_n hx hb dX2_inflowOf_0 rfl (lv_at hl 1 rfl) ?_
  refine kz_if_lt (tgt := 22) hx hb dX2_inflowOf_1 (by decide) (by omega) (fun c1 => False.elim (by omega)) (fun c1 => ?_)
  refine lv_iload_n hx hb dX2_inflowOf_4 rfl (lv_at hl 1 rfl) ?_
  refine lv_bipush (v := iz (24)) hx hb dX2_inflowOf_5 (by decide) ?_
  refine kz_icmp_ge (tgt := 22) hx hb dX2_inflowOf_7 (by decide) (by omega) (by omega) (fun c7 => False.elim (by omega)) (fun c7 => ?_)
  refine lv_aload_n hx hb dX2_inflowOf_10 rfl (lv_at hl 0 rfl) ?_
  refine va_get (D := D) (ci := 2) (C := RX2) (T := TX2) (N := 2) hx hb hts w1 hown hK.1 hP 0 rfl rfl 0 (by decide) w0 (fun _ h9 => h9) rfl dX2_inflowOf_11 ?_
  refine lv_bipush (v := iz (34)) hx hb dX2_inflowOf_14 (by decide) ?_
  refine lv_iload_n hx hb dX2_inflowOf_16 rfl (lv_at hl 1 rfl) ?_
  refine kz_add hx hb dX2_inflowOf_17 ?_
  refine kz_iald hx hb hK hP (1) rfl (34 + k) (by omega) (by omega) (by omega) dX2_inflowOf_18 ?_
  refine lv_goto (tgt := 23) hx hb dX2_inflowOf_19 (by decide) ?_
  exact W.iret hx hb hr (fun t ht _ => ⟨_, rfl, (congrArg iz (by first | rfl | omega)), ht⟩) (fun _ h => absurd h List.not_mem_nil) dX2_inflowOf_23
set_option maxHeartbeats 4000000 in
set_option maxRecDepth 100000 in
theorem c_X2_planOf (l : Launch) (D : va_G) (T : Nat → ClassId) (h0 : Nat) (h1 : Nat) (Z : Nat → Int) (ve : Int) (k : Nat) (hk : k < 24) : Met l yX2_planOf wsX2_planOf ({ frames := 0, cells := 0, slots := 0, locals := 0 }) (kPc D T [.ref h0, .int (iz (((k : Nat) : Int)))] (va_P D vwCl [(h0, .inr (2, [.ref h1, .int (iz (ve))])), (h1, .inl (T 0, 115, .inl (zA Z)))])) (vp_Si (fun r : Int32 => r = iz (Z (58 + k)))) 0 0 (fun _ => False) := by
  refine Met.ofW (cc := cX2_planOf) (maxL := 2) (ret := (some .int)) (by decide) rfl ?_
  intro p e s m args below meth c s₁ B hml hv
  obtain ⟨rfl, hK, hP⟩ := hv
  have hx := B.exec
  have hb := B.bytes
  have hr := B.returns
  have hts := atoms_spec (ws := wsX2_planOf) B.pre
  have hown : s.vm.findClass RX2 = some m.cls := findClass_of_methodNamed B.named
  have hlocks := B.notSynchronized
  have w0 := hts (.fieldLink RX2 11 "LakePlant$Lake" "cells" "[I") (List.mem_of_getElem? (i := 1) rfl)
  have w1 : ∀ w ∈ wsX20, w ∈ wsX2_planOf := by decide +kernel
  have hP : va_P D vwCl [(h0, .inr (2, [.ref h1, .int (iz (ve))])), (h1, .inl (T 0, 115, .inl (zA Z)))] s.heap := hP
  have hl := lv_entry ([.ref h0, .int (iz (((k : Nat) : Int)))]) (n := 2) (Nat.le_of_ble_eq_true rfl)
  rw [lg_entry_eq]
  generalize (lg_sl ([.ref h0, .int (iz (((k : Nat) : Int)))]) ++ List.replicate (2 - (lg_sl ([.ref h0, .int (iz (((k : Nat) : Int)))])).length) Slot.unset).toArray = ls at hl ⊢
  have hl : lv_has ls 2 [(0, .ref h0), (1, .int (iz (((k : Nat) : Int))))] := hl
  refine lv_iload_n hx hb dX2_planOf_0 rfl (lv_at hl 1 rfl) ?_
  refine kz_if_lt (tgt := 22) hx hb dX2_planOf_1 (by decide) (by omega) (fun c1 => False.elim (by omega)) (fun c1 => ?_)
  refine lv_iload_n hx hb dX2_planOf_4 rfl (lv_at hl 1 rfl) ?_
  refine lv_bipush (v := iz (24)) hx hb dX2_planOf_5 (by decide) ?_
  refine kz_icmp_ge (tgt := 22) hx hb dX2_planOf_7 (by decide) (by omega) (by omega) (fun c7 => False.elim (by omega)) (fun c7 => ?_)
  refine lv_aload_n hx hb dX2_planOf_10 rfl (lv_at hl 0 rfl) ?_
  refine va_get (D := D) (ci := 2) (C := RX2) (T := TX2) (N := 2) hx hb hts w1 hown hK.1 hP 0 rfl rfl 0 (by decide) w0 (fun _ h9 => h9) rfl dX2_planOf_11 ?_
  refine lv_bipush (v := iz (58)) hx hb dX2_planOf_14 (by decide) ?_
  refine lv_iload_n hx hb dX2_planOf_16 rfl (lv_at hl 1 rfl) ?_
  refine kz_add hx hb dX2_planOf_17 ?_
  refine kz_iald hx hb hK hP (1) rfl (58 + k) (by omega) (by omega) (by omega) dX2_planOf_18 ?_
  refine lv_goto (tgt := 23) hx hb dX2_planOf_19 (by decide) ?_
  exact W.iret hx hb hr (fun t ht _ => ⟨_, rfl, (congrArg iz (by first | rfl | omega)), ht⟩) (fun _ h => absurd h List.not_mem_nil) dX2_planOf_23
set_option maxHeartbeats 4000000 in
set_option maxRecDepth 100000 in
theorem c_X2_contracts (l : Launch) (D : va_G) (T : Nat → ClassId) (h0 : Nat) (h1 : Nat) (Z : Nat → Int) (ve : Int) : Met l yX2_contracts wsX2_contracts ({ frames := 0, cells := 0, slots := 0, locals := 0 }) (kPc D T [.ref h0] (va_P D vwCl [(h0, .inr (2, [.ref h1, .int (iz (ve))])), (h1, .inl (T 0, 115, .inl (zA Z)))])) (vp_Si (fun r : Int32 => r = iz (Z 114))) 0 0 (fun _ => False) := by
  refine Met.ofW (cc := cX2_contracts) (maxL := 1) (ret := (some .int)) (by decide) rfl ?_
  intro p e s m args below meth c s₁ B hml hv
  obtain ⟨rfl, hK, hP⟩ := hv
  have hx := B.exec
  have hb := B.bytes
  have hr := B.returns
  have hts := atoms_spec (ws := wsX2_contracts) B.pre
  have hown : s.vm.findClass RX2 = some m.cls := findClass_of_methodNamed B.named
  have hlocks := B.notSynchronized
  have w0 := hts (.fieldLink RX2 11 "LakePlant$Lake" "cells" "[I") (List.mem_of_getElem? (i := 1) rfl)
  have w1 : ∀ w ∈ wsX20, w ∈ wsX2_contracts := by decide +kernel
  have hP : va_P D vwCl [(h0, .inr (2, [.ref h1, .int (iz (ve))])), (h1, .inl (T 0, 115, .inl (zA Z)))] s.heap := hP
  have hl := lv_entry ([.ref h0]) (n := 1) (Nat.le_of_ble_eq_true rfl)
  rw [lg_entry_eq]
  generalize (lg_sl ([.ref h0]) ++ List.replicate (1 - (lg_sl ([.ref h0])).length) Slot.unset).toArray = ls at hl ⊢
  have hl : lv_has ls 1 [(0, .ref h0)] := hl
  refine lv_aload_n hx hb dX2_contracts_0 rfl (lv_at hl 0 rfl) ?_
  refine va_get (D := D) (ci := 2) (C := RX2) (T := TX2) (N := 2) hx hb hts w1 hown hK.1 hP 0 rfl rfl 0 (by decide) w0 (fun _ h9 => h9) rfl dX2_contracts_1 ?_
  refine lv_bipush (v := iz (114)) hx hb dX2_contracts_4 (by decide) ?_
  refine kz_iald hx hb hK hP (1) rfl (114) (by omega) (by omega) (by omega) dX2_contracts_6 ?_
  exact W.iret hx hb hr (fun t ht _ => ⟨_, rfl, (congrArg iz (by first | rfl | omega)), ht⟩) (fun _ h => absurd h List.not_mem_nil) dX2_contracts_7
set_option maxHeartbeats 4000000 in
set_option maxRecDepth 100000 in
theorem c_X2_isContract (l : Launch) (D : va_G) (T : Nat → ClassId) (h0 : Nat) (h1 : Nat) (Z : Nat → Int) (ve : Int) (k : Int) (hk : -2147483648 ≤ k ∧ k < 2147483648) (hV : VL Z) : Met l yX2_isContract wsX2_isContract ({ frames := 1, cells := 0, slots := 0, locals := 20 }) (kPc D T [.ref h0, .int (iz (k))] (va_P D vwCl [(h0, .inr (2, [.ref h1, .int (iz (ve))])), (h1, .inl (T 0, 115, .inl (zA Z)))])) (vp_Si (fun r : Int32 => r = iz (if 0 ≤ k ∧ k < Z 114 then 1 else 0))) 0 0 (fun _ => False) := by
  refine Met.ofW (cc := cX2_isContract) (maxL := 2) (ret := (some .boolean)) (by decide) rfl ?_
  intro p e s m args below meth c s₁ B hml hv
  obtain ⟨rfl, hK, hP⟩ := hv
  have hx := B.exec
  have hb := B.bytes
  have hr := B.returns
  have hts := atoms_spec (ws := wsX2_isContract) B.pre
  have hown : s.vm.findClass RX2 = some m.cls := findClass_of_methodNamed B.named
  have hlocks := B.notSynchronized
  have hP : va_P D vwCl [(h0, .inr (2, [.ref h1, .int (iz (ve))])), (h1, .inl (T 0, 115, .inl (zA Z)))] s.heap := hP
  have hl := lv_entry ([.ref h0, .int (iz (k))]) (n := 2) (Nat.le_of_ble_eq_true rfl)
  rw [lg_entry_eq]
  generalize (lg_sl ([.ref h0, .int (iz (k))]) ++ List.replicate (2 - (lg_sl ([.ref h0, .int (iz (k))])).length) Slot.unset).toArray = ls at hl ⊢
  have hl : lv_has ls 2 [(0, .ref h0), (1, .int (iz (k)))] := hl
  have hs := hV.1
  unfold VS at hs
  refine lv_iload_n hx hb dX2_isContract_0 rfl (lv_at hl 1 rfl) ?_
  refine kz_if_lt (tgt := 16) hx hb dX2_isContract_1 (by decide) (by omega) (fun c1 => ?_) (fun c1 => ?_)
  · refine lv_iconst (v := iz (0)) hx hb dX2_isContract_16 (by decide) ?_
    exact W.zret hx hb hr (kz_nar (by omega)) (fun t ht _ => ⟨_, rfl, (congrArg iz (by first | rfl | omega)), ht⟩) (fun _ h => absurd h List.not_mem_nil) dX2_isContract_17
  · refine lv_iload_n hx hb dX2_isContract_4 rfl (lv_at hl 1 rfl) ?_
    refine lv_aload_n hx hb dX2_isContract_5 rfl (lv_at hl 0 rfl) ?_
    refine kc_i (va_runV (As := []) (rest := [.int (iz (k))]) ⟨hx, hb, hml, hown, hts⟩ (c_X2_contracts l D T h0 h1 Z ve) (cwV 0 hts gX2_isContract_X2_contracts rfl rfl rfl (by decide +kernel) ⟨Nat.le_of_ble_eq_true rfl, Nat.le_of_ble_eq_true rfl⟩) (kPc.v hK (va_recv hK.1 hP (ci := 2) (q0 := 0) rfl rfl) (kcut hP [0, 1] rfl)) rfl rfl hl.1 rfl (lv_room (Nat.le_of_ble_eq_true rfl)) dX2_isContract_6 ⟨Nat.zero_le _, Nat.zero_le _⟩) (fun r1 hr1 => ?_)
    subst hr1
    refine kz_icmp_ge (tgt := 16) hx hb dX2_isContract_9 (by decide) (by omega) (by omega) (fun c9 => ?_) (fun c9 => ?_)
    · refine lv_iconst (v := iz (0)) hx hb dX2_isContract_16 (by decide) ?_
      exact W.zret hx hb hr (kz_nar (by omega)) (fun t ht _ => ⟨_, rfl, (congrArg iz (by first | rfl | omega)), ht⟩) (fun _ h => absurd h List.not_mem_nil) dX2_isContract_17
    · refine lv_iconst (v := iz (1)) hx hb dX2_isContract_12 (by decide) ?_
      refine lv_goto (tgt := 17) hx hb dX2_isContract_13 (by decide) ?_
      exact W.zret hx hb hr (kz_nar (by omega)) (fun t ht _ => ⟨_, rfl, (congrArg iz (by first | rfl | omega)), ht⟩) (fun _ h => absurd h List.not_mem_nil) dX2_isContract_17
set_option maxHeartbeats 4000000 in
set_option maxRecDepth 100000 in
theorem c_X2_contractPart (l : Launch) (D : va_G) (T : Nat → ClassId) (h0 : Nat) (h1 : Nat) (Z : Nat → Int) (ve : Int) (cn : Nat) (hcn : cn < 8) (k : Nat) (hk : k < 4) : Met l yX2_contractPart wsX2_contractPart ({ frames := 0, cells := 0, slots := 0, locals := 0 }) (kPc D T [.ref h0, .int (iz (((cn : Nat) : Int))), .int (iz (((k : Nat) : Int)))] (va_P D vwCl [(h0, .inr (2, [.ref h1, .int (iz (ve))])), (h1, .inl (T 0, 115, .inl (zA Z)))])) (vp_Si (fun r : Int32 => r = iz (Z (82 + cn * 4 + k)))) 0 0 (fun _ => False) := by
  refine Met.ofW (cc := cX2_contractPart) (maxL := 4) (ret := (some .int)) (by decide) rfl ?_
  intro p e s m args below meth c s₁ B hml hv
  obtain ⟨rfl, hK, hP⟩ := hv
  have hx := B.exec
  have hb := B.bytes
  have hr := B.returns
  have hts := atoms_spec (ws := wsX2_contractPart) B.pre
  have hown : s.vm.findClass RX2 = some m.cls := findClass_of_methodNamed B.named
  have hlocks := B.notSynchronized
  have w0 := hts (.fieldLink RX2 11 "LakePlant$Lake" "cells" "[I") (List.mem_of_getElem? (i := 1) rfl)
  have w1 : ∀ w ∈ wsX20, w ∈ wsX2_contractPart := by decide +kernel
  have hP : va_P D vwCl [(h0, .inr (2, [.ref h1, .int (iz (ve))])), (h1, .inl (T 0, 115, .inl (zA Z)))] s.heap := hP
  have hl := lv_entry ([.ref h0, .int (iz (((cn : Nat) : Int))), .int (iz (((k : Nat) : Int)))]) (n := 4) (Nat.le_of_ble_eq_true rfl)
  rw [lg_entry_eq]
  generalize (lg_sl ([.ref h0, .int (iz (((cn : Nat) : Int))), .int (iz (((k : Nat) : Int)))]) ++ List.replicate (4 - (lg_sl ([.ref h0, .int (iz (((cn : Nat) : Int))), .int (iz (((k : Nat) : Int)))])).length) Slot.unset).toArray = ls at hl ⊢
  have hl : lv_has ls 4 [(0, .ref h0), (1, .int (iz (((cn : Nat) : Int)))), (2, .int (iz (((k : Nat) : Int))))] := hl
  refine lv_iload_n hx hb dX2_contractPart_0 rfl (lv_at hl 1 rfl) ?_
  refine kz_if_lt (tgt := 23) hx hb dX2_contractPart_1 (by decide) (by omega) (fun c1 => False.elim (by omega)) (fun c1 => ?_)
  refine lv_iload_n hx hb dX2_contractPart_4 rfl (lv_at hl 1 rfl) ?_
  refine lv_bipush (v := iz (8)) hx hb dX2_contractPart_5 (by decide) ?_
  refine kz_icmp_ge (tgt := 23) hx hb dX2_contractPart_7 (by decide) (by omega) (by omega) (fun c7 => False.elim (by omega)) (fun c7 => ?_)
  refine lv_iload_n hx hb dX2_contractPart_10 rfl (lv_at hl 2 rfl) ?_
  refine kz_if_lt (tgt := 23) hx hb dX2_contractPart_11 (by decide) (by omega) (fun c11 => False.elim (by omega)) (fun c11 => ?_)
  refine lv_iload_n hx hb dX2_contractPart_14 rfl (lv_at hl 2 rfl) ?_
  refine lv_iconst (v := iz (4)) hx hb dX2_contractPart_15 (by decide) ?_
  refine kz_icmp_ge (tgt := 23) hx hb dX2_contractPart_16 (by decide) (by omega) (by omega) (fun c16 => False.elim (by omega)) (fun c16 => ?_)
  refine lv_iconst (v := iz (1)) hx hb dX2_contractPart_19 (by decide) ?_
  refine lv_goto (tgt := 24) hx hb dX2_contractPart_20 (by decide) ?_
  refine lv_istore_n (lv' := [(3, .int (iz (1))), (0, .ref h0), (1, .int (iz (((cn : Nat) : Int)))), (2, .int (iz (((k : Nat) : Int))))]) hx hb dX2_contractPart_24 rfl hl (by decide) rfl (fun ls hl => ?_)
  refine lv_iload_n hx hb dX2_contractPart_25 rfl (lv_at hl 0 rfl) ?_
  refine kz_if_eq (tgt := 45) hx hb dX2_contractPart_26 (by decide) (by omega) (fun c26 => False.elim (by omega)) (fun c26 => ?_)
  refine lv_aload_n hx hb dX2_contractPart_29 rfl (lv_at hl 1 rfl) ?_
  refine va_get (D := D) (ci := 2) (C := RX2) (T := TX2) (N := 2) hx hb hts w1 hown hK.1 hP 0 rfl rfl 0 (by decide) w0 (fun _ h9 => h9) rfl dX2_contractPart_30 ?_
  refine lv_bipush (v := iz (82)) hx hb dX2_contractPart_33 (by decide) ?_
  refine lv_iload_n hx hb dX2_contractPart_35 rfl (lv_at hl 2 rfl) ?_
  refine lv_iconst (v := iz (4)) hx hb dX2_contractPart_36 (by decide) ?_
  refine kz_mul hx hb dX2_contractPart_37 ?_
  refine kz_add hx hb dX2_contractPart_38 ?_
  refine lv_iload_n hx hb dX2_contractPart_39 rfl (lv_at hl 3 rfl) ?_
  refine kz_add hx hb dX2_contractPart_40 ?_
  refine kz_iald hx hb hK hP (1) rfl (82 + cn * 4 + k) (by omega) (by omega) (by omega) dX2_contractPart_41 ?_
  refine lv_goto (tgt := 46) hx hb dX2_contractPart_42 (by decide) ?_
  exact W.iret hx hb hr (fun t ht _ => ⟨_, rfl, (congrArg iz (by first | rfl | omega)), ht⟩) (fun _ h => absurd h List.not_mem_nil) dX2_contractPart_46
set_option maxHeartbeats 4000000 in
set_option maxRecDepth 100000 in
theorem c_X2_lossOf (l : Launch) (D : va_G) (T : Nat → ClassId) (h0 : Nat) (h1 : Nat) (Z : Nat → Int) (ve : Int) (p0 : Int) (hV : VL Z) (hp : 0 ≤ p0 ∧ p0 ≤ 30) : Met l yX2_lossOf wsX2_lossOf ({ frames := 0, cells := 0, slots := 0, locals := 0 }) (kPc D T [.ref h0, .int (iz (p0))] (va_P D vwCl [(h0, .inr (2, [.ref h1, .int (iz (ve))])), (h1, .inl (T 0, 115, .inl (zA Z)))])) (vp_Si (fun r : Int32 => r = iz (lk_loss Z p0))) 0 0 (fun _ => False) := by
  refine Met.ofW (cc := cX2_lossOf) (maxL := 2) (ret := (some .int)) (by decide) rfl ?_
  intro p e s m args below meth c s₁ B hml hv
  obtain ⟨rfl, hK, hP⟩ := hv
  have hx := B.exec
  have hb := B.bytes
  have hr := B.returns
  have hts := atoms_spec (ws := wsX2_lossOf) B.pre
  have hown : s.vm.findClass RX2 = some m.cls := findClass_of_methodNamed B.named
  have hlocks := B.notSynchronized
  have w0 := hts (.fieldLink RX2 11 "LakePlant$Lake" "cells" "[I") (List.mem_of_getElem? (i := 1) rfl)
  have w1 : ∀ w ∈ wsX20, w ∈ wsX2_lossOf := by decide +kernel
  have hP : va_P D vwCl [(h0, .inr (2, [.ref h1, .int (iz (ve))])), (h1, .inl (T 0, 115, .inl (zA Z)))] s.heap := hP
  have hl := lv_entry ([.ref h0, .int (iz (p0))]) (n := 2) (Nat.le_of_ble_eq_true rfl)
  rw [lg_entry_eq]
  generalize (lg_sl ([.ref h0, .int (iz (p0))]) ++ List.replicate (2 - (lg_sl ([.ref h0, .int (iz (p0))])).length) Slot.unset).toArray = ls at hl ⊢
  have hl : lv_has ls 2 [(0, .ref h0), (1, .int (iz (p0)))] := hl
  have hs := hV.1
  unfold VS at hs
  have hq := zmul hp hs.2.2.1
  refine lv_iload_n hx hb dX2_lossOf_0 rfl (lv_at hl 1 rfl) ?_
  refine lv_aload_n hx hb dX2_lossOf_1 rfl (lv_at hl 0 rfl) ?_
  refine va_get (D := D) (ci := 2) (C := RX2) (T := TX2) (N := 2) hx hb hts w1 hown hK.1 hP 0 rfl rfl 0 (by decide) w0 (fun _ h9 => h9) rfl dX2_lossOf_2 ?_
  refine lv_iconst (v := iz (2)) hx hb dX2_lossOf_5 (by decide) ?_
  refine kz_iald hx hb hK hP (1) rfl (2) (by omega) (by omega) (by omega) dX2_lossOf_6 ?_
  refine kz_mul hx hb dX2_lossOf_7 ?_
  refine lv_bipush (v := iz (99)) hx hb dX2_lossOf_8 (by decide) ?_
  refine kz_add hx hb dX2_lossOf_10 ?_
  refine lv_bipush (v := iz (100)) hx hb dX2_lossOf_11 (by decide) ?_
  refine kz_div hx hb (by omega) (by omega) dX2_lossOf_13 ?_
  exact W.iret hx hb hr (fun t ht _ => ⟨_, rfl, (congrArg iz (by first | rfl | omega)), ht⟩) (fun _ h => absurd h List.not_mem_nil) dX2_lossOf_14
set_option maxHeartbeats 4000000 in
set_option maxRecDepth 100000 in
theorem c_X2_filledLevel (l : Launch) (D : va_G) (T : Nat → ClassId) (h0 : Nat) (h1 : Nat) (Z : Nat → Int) (ve : Int) (k : Nat) (hk : k < 24) (lev : Int) (p0 : Int) (hV : VL Z) (hp : 0 ≤ p0 ∧ p0 ≤ 30) : Met l yX2_filledLevel wsX2_filledLevel ({ frames := 1, cells := 0, slots := 0, locals := 21 }) (kPc D T [.ref h0, .int (iz (((k : Nat) : Int))), .int (iz (lev)), .int (iz (p0))] (va_P D vwCl [(h0, .inr (2, [.ref h1, .int (iz (ve))])), (h1, .inl (T 0, 115, .inl (zA Z)))])) (vp_Si (fun r : Int32 => r = iz (lk_fill Z k lev p0))) 0 0 (fun _ => False) := by
  refine Met.ofW (cc := cX2_filledLevel) (maxL := 4) (ret := (some .int)) (by decide) rfl ?_
  intro p e s m args below meth c s₁ B hml hv
  obtain ⟨rfl, hK, hP⟩ := hv
  have hx := B.exec
  have hb := B.bytes
  have hr := B.returns
  have hts := atoms_spec (ws := wsX2_filledLevel) B.pre
  have hown : s.vm.findClass RX2 = some m.cls := findClass_of_methodNamed B.named
  have hlocks := B.notSynchronized
  have hP : va_P D vwCl [(h0, .inr (2, [.ref h1, .int (iz (ve))])), (h1, .inl (T 0, 115, .inl (zA Z)))] s.heap := hP
  have hl := lv_entry ([.ref h0, .int (iz (((k : Nat) : Int))), .int (iz (lev)), .int (iz (p0))]) (n := 4) (Nat.le_of_ble_eq_true rfl)
  rw [lg_entry_eq]
  generalize (lg_sl ([.ref h0, .int (iz (((k : Nat) : Int))), .int (iz (lev)), .int (iz (p0))]) ++ List.replicate (4 - (lg_sl ([.ref h0, .int (iz (((k : Nat) : Int))), .int (iz (lev)), .int (iz (p0))])).length) Slot.unset).toArray = ls at hl ⊢
  have hl : lv_has ls 4 [(0, .ref h0), (1, .int (iz (((k : Nat) : Int)))), (2, .int (iz (lev))), (3, .int (iz (p0)))] := hl
  refine lv_iload_n hx hb dX2_filledLevel_0 rfl (lv_at hl 2 rfl) ?_
  refine lv_iload_n hx hb dX2_filledLevel_1 rfl (lv_at hl 3 rfl) ?_
  refine kz_add hx hb dX2_filledLevel_2 ?_
  refine lv_aload_n hx hb dX2_filledLevel_3 rfl (lv_at hl 0 rfl) ?_
  refine lv_iload_n hx hb dX2_filledLevel_4 rfl (lv_at hl 3 rfl) ?_
  refine kc_i (va_runV (As := [.int (iz (p0))]) (rest := [.int (iz (lev + p0))]) ⟨hx, hb, hml, hown, hts⟩ (c_X2_lossOf l D T h0 h1 Z ve p0 hV (by omega)) (cwV 1 hts gX2_filledLevel_X2_lossOf rfl rfl rfl (by decide +kernel) ⟨Nat.le_of_ble_eq_true rfl, Nat.le_of_ble_eq_true rfl⟩) (kPc.v hK (va_recv hK.1 hP (ci := 2) (q0 := 0) rfl rfl) (kcut hP [0, 1] rfl)) rfl rfl hl.1 rfl (lv_room (Nat.le_of_ble_eq_true rfl)) dX2_filledLevel_5 ⟨Nat.zero_le _, Nat.zero_le _⟩) (fun r1 hr1 => ?_)
  subst hr1
  refine kz_sub hx hb dX2_filledLevel_8 ?_
  refine lv_aload_n hx hb dX2_filledLevel_9 rfl (lv_at hl 0 rfl) ?_
  refine lv_iload_n hx hb dX2_filledLevel_10 rfl (lv_at hl 1 rfl) ?_
  refine kc_i (va_runV (As := [.int (iz (((k : Nat) : Int)))]) (rest := [.int (iz ((lev + p0) - (lk_loss Z p0)))]) ⟨hx, hb, hml, hown, hts⟩ (c_X2_inflowOf l D T h0 h1 Z ve k (by omega)) (cwV 1 hts gX2_filledLevel_X2_inflowOf rfl rfl rfl (by decide +kernel) ⟨Nat.le_of_ble_eq_true rfl, Nat.le_of_ble_eq_true rfl⟩) (kPc.v hK (va_recv hK.1 hP (ci := 2) (q0 := 0) rfl rfl) (kcut hP [0, 1] rfl)) rfl rfl hl.1 rfl (lv_room (Nat.le_of_ble_eq_true rfl)) dX2_filledLevel_11 ⟨Nat.zero_le _, Nat.zero_le _⟩) (fun r2 hr2 => ?_)
  subst hr2
  refine kz_add hx hb dX2_filledLevel_14 ?_
  exact W.iret hx hb hr (fun t ht _ => ⟨_, rfl, (congrArg iz (by first | rfl | omega)), ht⟩) (fun _ h => absurd h List.not_mem_nil) dX2_filledLevel_15
set_option maxHeartbeats 4000000 in
set_option maxRecDepth 100000 in
theorem c_X2_wantedBy (l : Launch) (D : va_G) (T : Nat → ClassId) (h0 : Nat) (h1 : Nat) (Z : Nat → Int) (ve : Int) (uu : Int) (hV : VL Z) (hu : -1000000 ≤ uu ∧ uu ≤ 1000000) : Met l yX2_wantedBy wsX2_wantedBy ({ frames := 1, cells := 0, slots := 0, locals := 21 }) (kPc D T [.ref h0, .int (iz (uu))] (va_P D vwCl [(h0, .inr (2, [.ref h1, .int (iz (ve))])), (h1, .inl (T 0, 115, .inl (zA Z)))])) (vp_Si (fun r : Int32 => r = iz (lk_want Z uu))) 0 0 (fun _ => False) := by
  refine Met.ofW (cc := cX2_wantedBy) (maxL := 2) (ret := (some .int)) (by decide) rfl ?_
  intro p e s m args below meth c s₁ B hml hv
  obtain ⟨rfl, hK, hP⟩ := hv
  have hx := B.exec
  have hb := B.bytes
  have hr := B.returns
  have hts := atoms_spec (ws := wsX2_wantedBy) B.pre
  have hown : s.vm.findClass RX2 = some m.cls := findClass_of_methodNamed B.named
  have hlocks := B.notSynchronized
  have w0 := hts (.fieldLink RX2 11 "LakePlant$Lake" "cells" "[I") (List.mem_of_getElem? (i := 1) rfl)
  have w1 : ∀ w ∈ wsX20, w ∈ wsX2_wantedBy := by decide +kernel
  have w2 := hts (.methodLink RX2 61 Lib.Math.max.name) (List.mem_of_getElem? (i := 2) rfl)
  have w3 := hts (.static Lib.Math.max.name) (List.mem_of_getElem? (i := 3) rfl)
  have w4 := hts (.initialized "java/lang/Math") (List.mem_of_getElem? (i := 4) rfl)
  have w5 := hts (.code Lib.Math.max.name Lib.Math.max.code 2 (some .int)) (List.mem_of_getElem? (i := 5) rfl)
  have hP : va_P D vwCl [(h0, .inr (2, [.ref h1, .int (iz (ve))])), (h1, .inl (T 0, 115, .inl (zA Z)))] s.heap := hP
  have hl := lv_entry ([.ref h0, .int (iz (uu))]) (n := 2) (Nat.le_of_ble_eq_true rfl)
  rw [lg_entry_eq]
  generalize (lg_sl ([.ref h0, .int (iz (uu))]) ++ List.replicate (2 - (lg_sl ([.ref h0, .int (iz (uu))])).length) Slot.unset).toArray = ls at hl ⊢
  have hl : lv_has ls 2 [(0, .ref h0), (1, .int (iz (uu)))] := hl
  have hs := hV.1
  unfold VS at hs
  refine lv_aload_n hx hb dX2_wantedBy_0 rfl (lv_at hl 0 rfl) ?_
  refine va_get (D := D) (ci := 2) (C := RX2) (T := TX2) (N := 2) hx hb hts w1 hown hK.1 hP 0 rfl rfl 0 (by decide) w0 (fun _ h9 => h9) rfl dX2_wantedBy_1 ?_
  refine lv_iconst (v := iz (4)) hx hb dX2_wantedBy_4 (by decide) ?_
  refine kz_iald hx hb hK hP (1) rfl (4) (by omega) (by omega) (by omega) dX2_wantedBy_5 ?_
  refine lv_iload_n hx hb dX2_wantedBy_6 rfl (lv_at hl 1 rfl) ?_
  refine kz_mmax hx hb (by rw [hml]; exact hl.1.symm) hown w2 w3 w4 w5 (Nat.le_of_ble_eq_true rfl) (Nat.le_of_ble_eq_true rfl) (Nat.zero_le _) (Nat.zero_le _) (by omega) (by omega) dX2_wantedBy_7 ?_
  exact W.iret hx hb hr (fun t ht _ => ⟨_, rfl, (congrArg iz (by first | rfl | omega)), ht⟩) (fun _ h => absurd h List.not_mem_nil) dX2_wantedBy_10
set_option maxHeartbeats 4000000 in
set_option maxRecDepth 100000 in
theorem c_X2_letDownOf (l : Launch) (D : va_G) (T : Nat → ClassId) (h0 : Nat) (h1 : Nat) (Z : Nat → Int) (ve : Int) (fl : Int) (ww : Int) (hV : VL Z) (hf : -1000000 ≤ fl ∧ fl ≤ 1000000) (hw : -1000000 ≤ ww ∧ ww ≤ 1000000) : Met l yX2_letDownOf wsX2_letDownOf ({ frames := 1, cells := 0, slots := 0, locals := 21 }) (kPc D T [.ref h0, .int (iz (fl)), .int (iz (ww))] (va_P D vwCl [(h0, .inr (2, [.ref h1, .int (iz (ve))])), (h1, .inl (T 0, 115, .inl (zA Z)))])) (vp_Si (fun r : Int32 => r = iz (lk_down Z fl ww))) 0 0 (fun _ => False) := by
  refine Met.ofW (cc := cX2_letDownOf) (maxL := 3) (ret := (some .int)) (by decide) rfl ?_
  intro p e s m args below meth c s₁ B hml hv
  obtain ⟨rfl, hK, hP⟩ := hv
  have hx := B.exec
  have hb := B.bytes
  have hr := B.returns
  have hts := atoms_spec (ws := wsX2_letDownOf) B.pre
  have hown : s.vm.findClass RX2 = some m.cls := findClass_of_methodNamed B.named
  have hlocks := B.notSynchronized
  have w0 := hts (.fieldLink RX2 11 "LakePlant$Lake" "cells" "[I") (List.mem_of_getElem? (i := 1) rfl)
  have w1 : ∀ w ∈ wsX20, w ∈ wsX2_letDownOf := by decide +kernel
  have w2 := hts (.methodLink RX2 66 Lib.Math.min.name) (List.mem_of_getElem? (i := 2) rfl)
  have w3 := hts (.static Lib.Math.min.name) (List.mem_of_getElem? (i := 3) rfl)
  have w4 := hts (.initialized "java/lang/Math") (List.mem_of_getElem? (i := 4) rfl)
  have w5 := hts (.code Lib.Math.min.name Lib.Math.min.code 2 (some .int)) (List.mem_of_getElem? (i := 5) rfl)
  have w6 := hts (.methodLink RX2 61 Lib.Math.max.name) (List.mem_of_getElem? (i := 6) rfl)
  have w7 := hts (.static Lib.Math.max.name) (List.mem_of_getElem? (i := 7) rfl)
  have w8 := hts (.code Lib.Math.max.name Lib.Math.max.code 2 (some .int)) (List.mem_of_getElem? (i := 8) rfl)
  have hP : va_P D vwCl [(h0, .inr (2, [.ref h1, .int (iz (ve))])), (h1, .inl (T 0, 115, .inl (zA Z)))] s.heap := hP
  have hl := lv_entry ([.ref h0, .int (iz (fl)), .int (iz (ww))]) (n := 3) (Nat.le_of_ble_eq_true rfl)
  rw [lg_entry_eq]
  generalize (lg_sl ([.ref h0, .int (iz (fl)), .int (iz (ww))]) ++ List.replicate (3 - (lg_sl ([.ref h0, .int (iz (fl)), .int (iz (ww))])).length) Slot.unset).toArray = ls at hl ⊢
  have hl : lv_has ls 3 [(0, .ref h0), (1, .int (iz (fl))), (2, .int (iz (ww)))] := hl
  have hs := hV.1
  unfold VS at hs
  refine lv_iconst (v := iz (0)) hx hb dX2_letDownOf_0 (by decide) ?_
  refine lv_iload_n hx hb dX2_letDownOf_1 rfl (lv_at hl 2 rfl) ?_
  refine lv_iload_n hx hb dX2_letDownOf_2 rfl (lv_at hl 1 rfl) ?_
  refine lv_aload_n hx hb dX2_letDownOf_3 rfl (lv_at hl 0 rfl) ?_
  refine va_get (D := D) (ci := 2) (C := RX2) (T := TX2) (N := 2) hx hb hts w1 hown hK.1 hP 0 rfl rfl 0 (by decide) w0 (fun _ h9 => h9) rfl dX2_letDownOf_4 ?_
  refine lv_iconst (v := iz (5)) hx hb dX2_letDownOf_7 (by decide) ?_
  refine kz_iald hx hb hK hP (1) rfl (5) (by omega) (by omega) (by omega) dX2_letDownOf_8 ?_
  refine kz_sub hx hb dX2_letDownOf_9 ?_
  refine kz_mmin hx hb (by rw [hml]; exact hl.1.symm) hown w2 w3 w4 w5 (Nat.le_of_ble_eq_true rfl) (Nat.le_of_ble_eq_true rfl) (Nat.zero_le _) (Nat.zero_le _) (by omega) (by omega) dX2_letDownOf_10 ?_
  refine kz_mmax hx hb (by rw [hml]; exact hl.1.symm) hown w6 w7 w4 w8 (Nat.le_of_ble_eq_true rfl) (Nat.le_of_ble_eq_true rfl) (Nat.zero_le _) (Nat.zero_le _) (by omega) (by omega) dX2_letDownOf_13 ?_
  exact W.iret hx hb hr (fun t ht _ => ⟨_, rfl, (congrArg iz (by first | rfl | omega)), ht⟩) (fun _ h => absurd h List.not_mem_nil) dX2_letDownOf_16
set_option maxHeartbeats 4000000 in
set_option maxRecDepth 100000 in
theorem c_X2_spilledOf (l : Launch) (D : va_G) (T : Nat → ClassId) (h0 : Nat) (h1 : Nat) (Z : Nat → Int) (ve : Int) (lev : Int) (hV : VL Z) (hf : -1000000 ≤ lev ∧ lev ≤ 1000000) : Met l yX2_spilledOf wsX2_spilledOf ({ frames := 1, cells := 0, slots := 0, locals := 21 }) (kPc D T [.ref h0, .int (iz (lev))] (va_P D vwCl [(h0, .inr (2, [.ref h1, .int (iz (ve))])), (h1, .inl (T 0, 115, .inl (zA Z)))])) (vp_Si (fun r : Int32 => r = iz (lk_spill Z lev))) 0 0 (fun _ => False) := by
  refine Met.ofW (cc := cX2_spilledOf) (maxL := 2) (ret := (some .int)) (by decide) rfl ?_
  intro p e s m args below meth c s₁ B hml hv
  obtain ⟨rfl, hK, hP⟩ := hv
  have hx := B.exec
  have hb := B.bytes
  have hr := B.returns
  have hts := atoms_spec (ws := wsX2_spilledOf) B.pre
  have hown : s.vm.findClass RX2 = some m.cls := findClass_of_methodNamed B.named
  have hlocks := B.notSynchronized
  have w0 := hts (.fieldLink RX2 11 "LakePlant$Lake" "cells" "[I") (List.mem_of_getElem? (i := 1) rfl)
  have w1 : ∀ w ∈ wsX20, w ∈ wsX2_spilledOf := by decide +kernel
  have w2 := hts (.methodLink RX2 61 Lib.Math.max.name) (List.mem_of_getElem? (i := 2) rfl)
  have w3 := hts (.static Lib.Math.max.name) (List.mem_of_getElem? (i := 3) rfl)
  have w4 := hts (.initialized "java/lang/Math") (List.mem_of_getElem? (i := 4) rfl)
  have w5 := hts (.code Lib.Math.max.name Lib.Math.max.code 2 (some .int)) (List.mem_of_getElem? (i := 5) rfl)
  have hP : va_P D vwCl [(h0, .inr (2, [.ref h1, .int (iz (ve))])), (h1, .inl (T 0, 115, .inl (zA Z)))] s.heap := hP
  have hl := lv_entry ([.ref h0, .int (iz (lev))]) (n := 2) (Nat.le_of_ble_eq_true rfl)
  rw [lg_entry_eq]
  generalize (lg_sl ([.ref h0, .int (iz (lev))]) ++ List.replicate (2 - (lg_sl ([.ref h0, .int (iz (lev))])).length) Slot.unset).toArray = ls at hl ⊢
  have hl : lv_has ls 2 [(0, .ref h0), (1, .int (iz (lev)))] := hl
  have hs := hV.1
  unfold VS at hs
  refine lv_iconst (v := iz (0)) hx hb dX2_spilledOf_0 (by decide) ?_
  refine lv_iload_n hx hb dX2_spilledOf_1 rfl (lv_at hl 1 rfl) ?_
  refine lv_aload_n hx hb dX2_spilledOf_2 rfl (lv_at hl 0 rfl) ?_
  refine va_get (D := D) (ci := 2) (C := RX2) (T := TX2) (N := 2) hx hb hts w1 hown hK.1 hP 0 rfl rfl 0 (by decide) w0 (fun _ h9 => h9) rfl dX2_spilledOf_3 ?_
  refine lv_bipush (v := iz (6)) hx hb dX2_spilledOf_6 (by decide) ?_
  refine kz_iald hx hb hK hP (1) rfl (6) (by omega) (by omega) (by omega) dX2_spilledOf_8 ?_
  refine kz_sub hx hb dX2_spilledOf_9 ?_
  refine kz_mmax hx hb (by rw [hml]; exact hl.1.symm) hown w2 w3 w4 w5 (Nat.le_of_ble_eq_true rfl) (Nat.le_of_ble_eq_true rfl) (Nat.zero_le _) (Nat.zero_le _) (by omega) (by omega) dX2_spilledOf_10 ?_
  exact W.iret hx hb hr (fun t ht _ => ⟨_, rfl, (congrArg iz (by first | rfl | omega)), ht⟩) (fun _ h => absurd h List.not_mem_nil) dX2_spilledOf_13
set_option maxHeartbeats 4000000 in
set_option maxRecDepth 100000 in
theorem c_X2_pumpedBy (l : Launch) (D : va_G) (T : Nat → ClassId) (uu : Int) (hu : -1000000 ≤ uu ∧ uu ≤ 1000000) : Met l yX2_pumpedBy wsX2_pumpedBy ({ frames := 1, cells := 0, slots := 0, locals := 21 }) (kPc D T [.int (iz (uu))] (va_P D vwCl [])) (vp_Si (fun r : Int32 => r = iz (lk_pump uu))) 0 0 (fun _ => False) := by
  refine Met.ofW (cc := cX2_pumpedBy) (maxL := 1) (ret := (some .int)) (by decide) rfl ?_
  intro p e s m args below meth c s₁ B hml hv
  obtain ⟨rfl, hK, hP⟩ := hv
  have hx := B.exec
  have hb := B.bytes
  have hr := B.returns
  have hts := atoms_spec (ws := wsX2_pumpedBy) B.pre
  have hown : s.vm.findClass RX2 = some m.cls := findClass_of_methodNamed B.named
  have hlocks := B.notSynchronized
  have w0 := hts (.methodLink RX2 61 Lib.Math.max.name) (List.mem_of_getElem? (i := 1) rfl)
  have w1 := hts (.static Lib.Math.max.name) (List.mem_of_getElem? (i := 2) rfl)
  have w2 := hts (.initialized "java/lang/Math") (List.mem_of_getElem? (i := 3) rfl)
  have w3 := hts (.code Lib.Math.max.name Lib.Math.max.code 2 (some .int)) (List.mem_of_getElem? (i := 4) rfl)
  have hP : va_P D vwCl [] s.heap := hP
  have hl := lv_entry ([.int (iz (uu))]) (n := 1) (Nat.le_of_ble_eq_true rfl)
  rw [lg_entry_eq]
  generalize (lg_sl ([.int (iz (uu))]) ++ List.replicate (1 - (lg_sl ([.int (iz (uu))])).length) Slot.unset).toArray = ls at hl ⊢
  have hl : lv_has ls 1 [(0, .int (iz (uu)))] := hl
  refine lv_iconst (v := iz (0)) hx hb dX2_pumpedBy_0 (by decide) ?_
  refine lv_iload_n hx hb dX2_pumpedBy_1 rfl (lv_at hl 0 rfl) ?_
  refine kz_neg hx hb dX2_pumpedBy_2 ?_
  refine kz_mmax hx hb (by rw [hml]; exact hl.1.symm) hown w0 w1 w2 w3 (Nat.le_of_ble_eq_true rfl) (Nat.le_of_ble_eq_true rfl) (Nat.zero_le _) (Nat.zero_le _) (by omega) (by omega) dX2_pumpedBy_3 ?_
  exact W.iret hx hb hr (fun t ht _ => ⟨_, rfl, (congrArg iz (by first | rfl | omega)), ht⟩) (fun _ h => absurd h List.not_mem_nil) dX2_pumpedBy_6
