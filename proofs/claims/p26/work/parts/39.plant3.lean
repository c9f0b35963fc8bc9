set_option maxHeartbeats 4000000 in
set_option maxRecDepth 100000 in
theorem c_X6_hour (l : Launch) (D : va_G) (T : Nat → ClassId) (sz : Nat) (px : Nat) (hc : Nat) (so : Nat) (hp : Nat) (ho : Nat) (sl : Nat) (fl : Nat) (hh : Nat) (a1 : Nat) (a2 : Nat) (a3 : Nat) (a4 : Nat) (a5 : Nat) (a6 : Nat) (a7 : Nat) (a8 : Nat) (F1 : Nat → Int) (F2 : Nat → Int) (F3 : Nat → Int) (F4 : Nat → Int) (F5 : Nat → Int) (F6 : Nat → Int) (F7 : Nat → Int) (F8 : Nat → Int) (h0 : Nat) (h1 : Nat) (Z : Nat → Int) (ve : Int) (a : Int) (b : Int) (hia : -2147483648 ≤ a ∧ a < 2147483648) (hib : -2147483648 ≤ b ∧ b < 2147483648) (hV : VL Z) : Met l yX6_hour wsX6_hour ({ frames := 5, cells := 0, slots := 0, locals := 122 }) (kPc D T [.ref px, .int (iz (a)), .int (iz (b))] (kW D sz [(px, .inr (6, [.ref h0, .ref hc, .ref so, .ref hp, .ref ho, .ref hh, .ref sl, .ref fl])), (hc, .inr (0, [.ref h0, .ref a1, .ref a2, .ref a3, .ref a4, .ref a5, .ref a6, .ref a7, .ref a8])), (a1, .inl (T 0, 24, .inl (zA F1))), (a2, .inl (T 0, 24, .inl (zA F2))), (a3, .inl (T 0, 24, .inl (zA F3))), (a4, .inl (T 0, 24, .inl (zA F4))), (a5, .inl (T 0, 24, .inl (zA F5))), (a6, .inl (T 0, 24, .inl (zA F6))), (a7, .inl (T 0, 24, .inl (zA F7))), (a8, .inl (T 0, 24, .inl (zA F8))), (h0, .inr (2, [.ref h1, .int (iz (ve))])), (h1, .inl (T 0, 115, .inl (zA Z)))])) (va_Qi (fun (r : Int32) (u : (Nat → Int) × (Nat → Int) × (Nat → Int) × (Nat → Int) × (Nat → Int) × (Nat → Int) × (Nat → Int) × (Nat → Int)) => r = iz (pl_hour Z a b)) (fun (u : (Nat → Int) × (Nat → Int) × (Nat → Int) × (Nat → Int) × (Nat → Int) × (Nat → Int) × (Nat → Int) × (Nat → Int)) (t : State) => va_P D vwCl [(px, .inr (6, [.ref h0, .ref hc, .ref so, .ref hp, .ref ho, .ref hh, .ref sl, .ref fl])), (hc, .inr (0, [.ref h0, .ref a1, .ref a2, .ref a3, .ref a4, .ref a5, .ref a6, .ref a7, .ref a8])), (a1, .inl (T 0, 24, .inl (zA u.1))), (a2, .inl (T 0, 24, .inl (zA u.2.1))), (a3, .inl (T 0, 24, .inl (zA u.2.2.1))), (a4, .inl (T 0, 24, .inl (zA u.2.2.2.1))), (a5, .inl (T 0, 24, .inl (zA u.2.2.2.2.1))), (a6, .inl (T 0, 24, .inl (zA u.2.2.2.2.2.1))), (a7, .inl (T 0, 24, .inl (zA u.2.2.2.2.2.2.1))), (a8, .inl (T 0, 24, .inl (zA u.2.2.2.2.2.2.2))), (h0, .inr (2, [.ref h1, .int (iz (ve))])), (h1, .inl (T 0, 115, .inl (zA Z)))] t.heap) (va_A [(px, .inr (6, [.ref h0, .ref hc, .ref so, .ref hp, .ref ho, .ref hh, .ref sl, .ref fl])), (hc, .inr (0, [.ref h0, .ref a1, .ref a2, .ref a3, .ref a4, .ref a5, .ref a6, .ref a7, .ref a8])), (a1, .inl (T 0, 24, .inl (zA F1))), (a2, .inl (T 0, 24, .inl (zA F2))), (a3, .inl (T 0, 24, .inl (zA F3))), (a4, .inl (T 0, 24, .inl (zA F4))), (a5, .inl (T 0, 24, .inl (zA F5))), (a6, .inl (T 0, 24, .inl (zA F6))), (a7, .inl (T 0, 24, .inl (zA F7))), (a8, .inl (T 0, 24, .inl (zA F8))), (h0, .inr (2, [.ref h1, .int (iz (ve))])), (h1, .inl (T 0, 115, .inl (zA Z)))] sz)) 0 0 (va_A [(px, .inr (6, [.ref h0, .ref hc, .ref so, .ref hp, .ref ho, .ref hh, .ref sl, .ref fl])), (hc, .inr (0, [.ref h0, .ref a1, .ref a2, .ref a3, .ref a4, .ref a5, .ref a6, .ref a7, .ref a8])), (a1, .inl (T 0, 24, .inl (zA F1))), (a2, .inl (T 0, 24, .inl (zA F2))), (a3, .inl (T 0, 24, .inl (zA F3))), (a4, .inl (T 0, 24, .inl (zA F4))), (a5, .inl (T 0, 24, .inl (zA F5))), (a6, .inl (T 0, 24, .inl (zA F6))), (a7, .inl (T 0, 24, .inl (zA F7))), (a8, .inl (T 0, 24, .inl (zA F8))), (h0, .inr (2, [.ref h1, .int (iz (ve))])), (h1, .inl (T 0, 115, .inl (zA Z)))] sz) := by
  refine Met.ofW (cc := cX6_hour) (maxL := 3) (ret := (some .int)) (by decide) rfl ?_
  intro p e s m args below meth c s₁ B hml hv
  obtain ⟨rfl, hK, hsz, hP, hD0⟩ := hv
  have hx := B.exec
  have hb := B.bytes
  have hr := B.returns
  have hts := atoms_spec (ws := wsX6_hour) B.pre
  have hown : s.vm.findClass RX6 = some m.cls := findClass_of_methodNamed B.named
  have hlocks := B.notSynchronized
  have w0 := hts (.fieldLink RX6 21 "LakePlant" "course" "LLakePlant$Course;") (List.mem_of_getElem? (i := 1) rfl)
  have w1 : ∀ w ∈ wsX60, w ∈ wsX6_hour := by decide +kernel
  have w2 := hts (.initialized RX0) (List.mem_of_getElem? (i := 9) rfl)
  have w3 := hts (.instanceMethod yX0_follow) (List.mem_of_getElem? (i := 8) rfl)
  have w4 := hts (.selects RX0 yX0_follow yX0_follow) (List.mem_of_getElem? (i := 10) rfl)
  have w5 := hts (.fieldLink RX6 10 "LakePlant" "lake" "LLakePlant$Lake;") (List.mem_of_getElem? (i := 2) rfl)
  have w6 := hts (.initialized RX2) (List.mem_of_getElem? (i := 17) rfl)
  have w7 := hts (.instanceMethod yX2_priceOf) (List.mem_of_getElem? (i := 66) rfl)
  have w8 := hts (.selects RX2 yX2_priceOf yX2_priceOf) (List.mem_of_getElem? (i := 67) rfl)
  have w9 := hts (.instanceMethod yX2_inflowOf) (List.mem_of_getElem? (i := 47) rfl)
  have w10 := hts (.selects RX2 yX2_inflowOf yX2_inflowOf) (List.mem_of_getElem? (i := 48) rfl)
  have w11 := hts (.instanceMethod yX2_planOf) (List.mem_of_getElem? (i := 30) rfl)
  have w12 := hts (.selects RX2 yX2_planOf yX2_planOf) (List.mem_of_getElem? (i := 31) rfl)
  have w13 : ∀ w ∈ wsX00, w ∈ wsX6_hour := by decide +kernel
  have w14 := hts (.constant RX6 130 (1000000)) (List.mem_of_getElem? (i := 3) rfl)
  subst hsz
  have hD := hD0.self (sz := s.heap.size)
  generalize hAe : va_A [(px, .inr (6, [.ref h0, .ref hc, .ref so, .ref hp, .ref ho, .ref hh, .ref sl, .ref fl])), (hc, .inr (0, [.ref h0, .ref a1, .ref a2, .ref a3, .ref a4, .ref a5, .ref a6, .ref a7, .ref a8])), (a1, .inl (T 0, 24, .inl (zA F1))), (a2, .inl (T 0, 24, .inl (zA F2))), (a3, .inl (T 0, 24, .inl (zA F3))), (a4, .inl (T 0, 24, .inl (zA F4))), (a5, .inl (T 0, 24, .inl (zA F5))), (a6, .inl (T 0, 24, .inl (zA F6))), (a7, .inl (T 0, 24, .inl (zA F7))), (a8, .inl (T 0, 24, .inl (zA F8))), (h0, .inr (2, [.ref h1, .int (iz (ve))])), (h1, .inl (T 0, 115, .inl (zA Z)))] s.heap.size = A at hD ⊢
  have hA : ∀ q : Nat, s.heap.size ≤ q → A q := fun q h => by rw [← hAe]; exact Or.inr h
  have hS : va_S A s.heap s.heap [] := va_S.rf
  have hP : va_P D vwCl [(px, .inr (6, [.ref h0, .ref hc, .ref so, .ref hp, .ref ho, .ref hh, .ref sl, .ref fl])), (hc, .inr (0, [.ref h0, .ref a1, .ref a2, .ref a3, .ref a4, .ref a5, .ref a6, .ref a7, .ref a8])), (a1, .inl (T 0, 24, .inl (zA F1))), (a2, .inl (T 0, 24, .inl (zA F2))), (a3, .inl (T 0, 24, .inl (zA F3))), (a4, .inl (T 0, 24, .inl (zA F4))), (a5, .inl (T 0, 24, .inl (zA F5))), (a6, .inl (T 0, 24, .inl (zA F6))), (a7, .inl (T 0, 24, .inl (zA F7))), (a8, .inl (T 0, 24, .inl (zA F8))), (h0, .inr (2, [.ref h1, .int (iz (ve))])), (h1, .inl (T 0, 115, .inl (zA Z)))] s.heap := hP
  have hl := lv_entry ([.ref px, .int (iz (a)), .int (iz (b))]) (n := 3) (Nat.le_of_ble_eq_true rfl)
  rw [lg_entry_eq]
  generalize (lg_sl ([.ref px, .int (iz (a)), .int (iz (b))]) ++ List.replicate (3 - (lg_sl ([.ref px, .int (iz (a)), .int (iz (b))])).length) Slot.unset).toArray = ls at hl ⊢
  have hl : lv_has ls 3 [(0, .ref px), (1, .int (iz (a))), (2, .int (iz (b)))] := hl
  have hs := hV.1
  unfold VS at hs
  refine lv_iload_n hx hb dX6_hour_0 rfl (lv_at hl 1 rfl) ?_
  refine kc_i (va_runS (As := [.int (iz (a))]) (rest := []) ⟨hx, hb, hml, hown, hts⟩ (c_X6_isHour l D T a (by omega)) (va_cwS 1 hts gX6_hour_X6_isHour rfl rfl rfl (by decide +kernel) ⟨Nat.le_of_ble_eq_true rfl, Nat.le_of_ble_eq_true rfl⟩) (kPc.s hK (kcut hP [] rfl)) rfl rfl hl.1 rfl (lv_room (Nat.le_of_ble_eq_true rfl)) dX6_hour_1 ⟨Nat.zero_le _, Nat.zero_le _⟩) (fun r1 hr1 => ?_)
  subst hr1
  refine kz_if_ne (tgt := 9) hx hb dX6_hour_4 (by decide) (by omega) (fun c4 => ?_) (fun c4 => ?_)
  · have hin : 0 ≤ a ∧ a < 24 := by omega
    refine lv_aload_n hx hb dX6_hour_9 rfl (lv_at hl 0 rfl) ?_
    refine va_get (D := D) (ci := 6) (C := RX6) (T := TX6) (N := 8) hx hb hts w1 hown hK.1 hP 0 rfl rfl 1 (by decide) w0 (fun _ h9 => h9) rfl dX6_hour_10 ?_
    refine kc_wv (va_runVN (As := []) (rest := []) ⟨hx, hb, hml, hown, hts⟩ (c_X0_follow l D T s.heap.size hc a1 a2 a3 a4 a5 a6 a7 a8 F1 F2 F3 F4 F5 F6 F7 F8 h0 h1 Z ve hV) ⟨va_cnB 0 hts gX6_hour_X0_follow_n99 rfl rfl rfl (kn_RX6_99 hK) w2 (by decide +kernel) ⟨Nat.le_of_ble_eq_true rfl, Nat.le_of_ble_eq_true rfl⟩, w3, w4⟩ (kPc.v hK (va_recv hK.1 hP (ci := 0) (q0 := 1) rfl rfl) (kW.cut hP hD [1, 2, 3, 4, 5, 6, 7, 8, 9, 10, 11] rfl (by rfl))) rfl rfl hl.1 rfl (lv_room (Nat.le_of_ble_eq_true rfl)) dX6_hour_13 ⟨Nat.zero_le _, Nat.zero_le _⟩) hP hD hS hA [1, 2, 3, 4, 5, 6, 7, 8, 9, 10, 11] rfl (fun _ => rfl) (fun u H locs hr2 hP hD hS => ?_)
    have hP : va_P D vwCl [(px, .inr (6, [.ref h0, .ref hc, .ref so, .ref hp, .ref ho, .ref hh, .ref sl, .ref fl])), (hc, .inr (0, [.ref h0, .ref a1, .ref a2, .ref a3, .ref a4, .ref a5, .ref a6, .ref a7, .ref a8])), (a1, .inl (T 0, 24, .inl (zA (zmix 24 (dy_dn Z) F1)))), (a2, .inl (T 0, 24, .inl (zA (zmix 24 (dy_pu Z) F2)))), (a3, .inl (T 0, 24, .inl (zA (zmix 24 (dy_lo Z) F3)))), (a4, .inl (T 0, 24, .inl (zA (zmix 24 (dy_sp Z) F4)))), (a5, .inl (T 0, 24, .inl (zA (zmix 24 (dy_le Z) F5)))), (a6, .inl (T 0, 24, .inl (zA (zmix 24 (dy_mo Z) F6)))), (a7, .inl (T 0, 24, .inl (zA (zmix 24 (dy_tr Z) F7)))), (a8, .inl (T 0, 24, .inl (zA (zmix 24 (dy_ca Z) F8)))), (h0, .inr (2, [.ref h1, .int (iz (ve))])), (h1, .inl (T 0, 115, .inl (zA Z)))] H := hP
    have hD : va_D A [(px, .inr (6, [.ref h0, .ref hc, .ref so, .ref hp, .ref ho, .ref hh, .ref sl, .ref fl])), (hc, .inr (0, [.ref h0, .ref a1, .ref a2, .ref a3, .ref a4, .ref a5, .ref a6, .ref a7, .ref a8])), (a1, .inl (T 0, 24, .inl (zA (zmix 24 (dy_dn Z) F1)))), (a2, .inl (T 0, 24, .inl (zA (zmix 24 (dy_pu Z) F2)))), (a3, .inl (T 0, 24, .inl (zA (zmix 24 (dy_lo Z) F3)))), (a4, .inl (T 0, 24, .inl (zA (zmix 24 (dy_sp Z) F4)))), (a5, .inl (T 0, 24, .inl (zA (zmix 24 (dy_le Z) F5)))), (a6, .inl (T 0, 24, .inl (zA (zmix 24 (dy_mo Z) F6)))), (a7, .inl (T 0, 24, .inl (zA (zmix 24 (dy_tr Z) F7)))), (a8, .inl (T 0, 24, .inl (zA (zmix 24 (dy_ca Z) F8)))), (h0, .inr (2, [.ref h1, .int (iz (ve))])), (h1, .inl (T 0, 115, .inl (zA Z)))] := hD
    refine lv_iload_n hx hb dX6_hour_16 rfl (lv_at hl 2 rfl) ?_
    rcases (show b = 0 ∨ b = 1 ∨ b = 2 ∨ b = 3 ∨ b = 4 ∨ b = 5 ∨ b = 6 ∨ b = 7 ∨ b = 8 ∨ b = 9 ∨ b = 10 ∨ (b < 0 ∨ 10 < b) from (by omega)) with hs17 | hs17 | hs17 | hs17 | hs17 | hs17 | hs17 | hs17 | hs17 | hs17 | hs17 | hs17
    · refine kz_tableIn (v := 0) (tgt := 76) (off := 59) hx hb dX6_hour_17 hs17 (by decide) rfl (by decide) ?_
      refine lv_aload_n hx hb dX6_hour_76 rfl (lv_at hl 0 rfl) ?_
      refine va_get (D := D) (ci := 6) (C := RX6) (T := TX6) (N := 8) hx hb hts w1 hown hK.1 hP 0 rfl rfl 0 (by decide) w5 (fun _ h9 => h9) rfl dX6_hour_77 ?_
      refine lv_iload_n hx hb dX6_hour_80 rfl (lv_at hl 1 rfl) ?_
      refine kz_top (y := ((a.toNat : Nat) : Int)) (by omega) ?_
      refine kc_i (va_runVN (As := [.int (iz (((a.toNat : Nat) : Int)))]) (rest := []) ⟨hx, hb, hml, hown, hts⟩ (c_X2_priceOf l D T h0 h1 Z ve a.toNat (by omega)) ⟨va_cnB 1 hts gX6_hour_X2_priceOf_n102 rfl rfl rfl (kn_RX6_102 hK) w6 (by decide +kernel) ⟨Nat.le_of_ble_eq_true rfl, Nat.le_of_ble_eq_true rfl⟩, w7, w8⟩ (kPc.v hK (va_recv hK.1 hP (ci := 2) (q0 := 10) rfl rfl) (kcut hP [10, 11] rfl)) rfl rfl hl.1 rfl (lv_room (Nat.le_of_ble_eq_true rfl)) dX6_hour_81 ⟨Nat.zero_le _, Nat.zero_le _⟩) (fun r3 hr3 => ?_)
      subst hr3
      exact W.iret hx hb hr (fun t ht hW => ⟨⟨_, (zmix 24 (dy_dn Z) F1, zmix 24 (dy_pu Z) F2, zmix 24 (dy_lo Z) F3, zmix 24 (dy_sp Z) F4, zmix 24 (dy_le Z) F5, zmix 24 (dy_mo Z) F6, zmix 24 (dy_tr Z) F7, zmix 24 (dy_ca Z) F8), rfl, (congrArg iz (by unfold pl_hour; rw [if_pos hin, hs17]; rfl)), by show va_P _ _ _ t.heap; rw [ht]; exact hP⟩, hS.F ht⟩) hS.2.2 dX6_hour_84
    · refine kz_tableIn (v := 1) (tgt := 85) (off := 68) hx hb dX6_hour_17 hs17 (by decide) rfl (by decide) ?_
      refine lv_aload_n hx hb dX6_hour_85 rfl (lv_at hl 0 rfl) ?_
      refine va_get (D := D) (ci := 6) (C := RX6) (T := TX6) (N := 8) hx hb hts w1 hown hK.1 hP 0 rfl rfl 0 (by decide) w5 (fun _ h9 => h9) rfl dX6_hour_86 ?_
      refine lv_iload_n hx hb dX6_hour_89 rfl (lv_at hl 1 rfl) ?_
      refine kz_top (y := ((a.toNat : Nat) : Int)) (by omega) ?_
      refine kc_i (va_runVN (As := [.int (iz (((a.toNat : Nat) : Int)))]) (rest := []) ⟨hx, hb, hml, hown, hts⟩ (c_X2_inflowOf l D T h0 h1 Z ve a.toNat (by omega)) ⟨va_cnB 1 hts gX6_hour_X2_inflowOf_n105 rfl rfl rfl (kn_RX6_105 hK) w6 (by decide +kernel) ⟨Nat.le_of_ble_eq_true rfl, Nat.le_of_ble_eq_true rfl⟩, w9, w10⟩ (kPc.v hK (va_recv hK.1 hP (ci := 2) (q0 := 10) rfl rfl) (kcut hP [10, 11] rfl)) rfl rfl hl.1 rfl (lv_room (Nat.le_of_ble_eq_true rfl)) dX6_hour_90 ⟨Nat.zero_le _, Nat.zero_le _⟩) (fun r4 hr4 => ?_)
      subst hr4
      exact W.iret hx hb hr (fun t ht hW => ⟨⟨_, (zmix 24 (dy_dn Z) F1, zmix 24 (dy_pu Z) F2, zmix 24 (dy_lo Z) F3, zmix 24 (dy_sp Z) F4, zmix 24 (dy_le Z) F5, zmix 24 (dy_mo Z) F6, zmix 24 (dy_tr Z) F7, zmix 24 (dy_ca Z) F8), rfl, (congrArg iz (by unfold pl_hour; rw [if_pos hin, hs17]; rfl)), by show va_P _ _ _ t.heap; rw [ht]; exact hP⟩, hS.F ht⟩) hS.2.2 dX6_hour_93
    · refine kz_tableIn (v := 2) (tgt := 94) (off := 77) hx hb dX6_hour_17 hs17 (by decide) rfl (by decide) ?_
      refine lv_aload_n hx hb dX6_hour_94 rfl (lv_at hl 0 rfl) ?_
      refine va_get (D := D) (ci := 6) (C := RX6) (T := TX6) (N := 8) hx hb hts w1 hown hK.1 hP 0 rfl rfl 0 (by decide) w5 (fun _ h9 => h9) rfl dX6_hour_95 ?_
      refine lv_iload_n hx hb dX6_hour_98 rfl (lv_at hl 1 rfl) ?_
      refine kz_top (y := ((a.toNat : Nat) : Int)) (by omega) ?_
      refine kc_i (va_runVN (As := [.int (iz (((a.toNat : Nat) : Int)))]) (rest := []) ⟨hx, hb, hml, hown, hts⟩ (c_X2_planOf l D T h0 h1 Z ve a.toNat (by omega)) ⟨va_cnB 1 hts gX6_hour_X2_planOf_n108 rfl rfl rfl (kn_RX6_108 hK) w6 (by decide +kernel) ⟨Nat.le_of_ble_eq_true rfl, Nat.le_of_ble_eq_true rfl⟩, w11, w12⟩ (kPc.v hK (va_recv hK.1 hP (ci := 2) (q0 := 10) rfl rfl) (kcut hP [10, 11] rfl)) rfl rfl hl.1 rfl (lv_room (Nat.le_of_ble_eq_true rfl)) dX6_hour_99 ⟨Nat.zero_le _, Nat.zero_le _⟩) (fun r5 hr5 => ?_)
      subst hr5
      refine lv_bipush (v := iz (100)) hx hb dX6_hour_102 (by decide) ?_
      refine kz_add hx hb dX6_hour_104 ?_
      exact W.iret hx hb hr (fun t ht hW => ⟨⟨_, (zmix 24 (dy_dn Z) F1, zmix 24 (dy_pu Z) F2, zmix 24 (dy_lo Z) F3, zmix 24 (dy_sp Z) F4, zmix 24 (dy_le Z) F5, zmix 24 (dy_mo Z) F6, zmix 24 (dy_tr Z) F7, zmix 24 (dy_ca Z) F8), rfl, (congrArg iz (by unfold pl_hour; rw [if_pos hin, hs17]; rfl)), by show va_P _ _ _ t.heap; rw [ht]; exact hP⟩, hS.F ht⟩) hS.2.2 dX6_hour_105
    · refine kz_tableIn (v := 3) (tgt := 106) (off := 89) hx hb dX6_hour_17 hs17 (by decide) rfl (by decide) ?_
      refine lv_aload_n hx hb dX6_hour_106 rfl (lv_at hl 0 rfl) ?_
      refine va_get (D := D) (ci := 6) (C := RX6) (T := TX6) (N := 8) hx hb hts w1 hown hK.1 hP 0 rfl rfl 1 (by decide) w0 (fun _ h9 => h9) rfl dX6_hour_107 ?_
      refine va_getN (D := D) (ci := 0) (C := RX0) (T := TX0) (N := 9) hx hb hts w13 hown hK.1 hP 1 rfl rfl 1 (by decide) (kb_RX6_111 hK) (fun _ h9 => h9) rfl dX6_hour_110 ?_
      refine lv_iload_n hx hb dX6_hour_113 rfl (lv_at hl 1 rfl) ?_
      refine kz_iald hx hb hK hP (2) rfl ((a).toNat) (by omega) (by omega) (by omega) dX6_hour_114 ?_
      exact W.iret hx hb hr (fun t ht hW => ⟨⟨_, (zmix 24 (dy_dn Z) F1, zmix 24 (dy_pu Z) F2, zmix 24 (dy_lo Z) F3, zmix 24 (dy_sp Z) F4, zmix 24 (dy_le Z) F5, zmix 24 (dy_mo Z) F6, zmix 24 (dy_tr Z) F7, zmix 24 (dy_ca Z) F8), rfl, (congrArg iz (by rw [zmix_in (by omega)]; unfold pl_hour; rw [if_pos hin, hs17]; rfl)), by show va_P _ _ _ t.heap; rw [ht]; exact hP⟩, hS.F ht⟩) hS.2.2 dX6_hour_115
    · refine kz_tableIn (v := 4) (tgt := 116) (off := 99) hx hb dX6_hour_17 hs17 (by decide) rfl (by decide) ?_
      refine lv_aload_n hx hb dX6_hour_116 rfl (lv_at hl 0 rfl) ?_
      refine va_get (D := D) (ci := 6) (C := RX6) (T := TX6) (N := 8) hx hb hts w1 hown hK.1 hP 0 rfl rfl 1 (by decide) w0 (fun _ h9 => h9) rfl dX6_hour_117 ?_
      refine va_getN (D := D) (ci := 0) (C := RX0) (T := TX0) (N := 9) hx hb hts w13 hown hK.1 hP 1 rfl rfl 2 (by decide) (kb_RX6_115 hK) (fun _ h9 => h9) rfl dX6_hour_120 ?_
      refine lv_iload_n hx hb dX6_hour_123 rfl (lv_at hl 1 rfl) ?_
      refine kz_iald hx hb hK hP (3) rfl ((a).toNat) (by omega) (by omega) (by omega) dX6_hour_124 ?_
      exact W.iret hx hb hr (fun t ht hW => ⟨⟨_, (zmix 24 (dy_dn Z) F1, zmix 24 (dy_pu Z) F2, zmix 24 (dy_lo Z) F3, zmix 24 (dy_sp Z) F4, zmix 24 (dy_le Z) F5, zmix 24 (dy_mo Z) F6, zmix 24 (dy_tr Z) F7, zmix 24 (dy_ca Z) F8), rfl, (congrArg iz (by rw [zmix_in (by omega)]; unfold pl_hour; rw [if_pos hin, hs17]; rfl)), by show va_P _ _ _ t.heap; rw [ht]; exact hP⟩, hS.F ht⟩) hS.2.2 dX6_hour_125
    · refine kz_tableIn (v := 5) (tgt := 126) (off := 109) hx hb dX6_hour_17 hs17 (by decide) rfl (by decide) ?_
      refine lv_aload_n hx hb dX6_hour_126 rfl (lv_at hl 0 rfl) ?_
      refine va_get (D := D) (ci := 6) (C := RX6) (T := TX6) (N := 8) hx hb hts w1 hown hK.1 hP 0 rfl rfl 1 (by decide) w0 (fun _ h9 => h9) rfl dX6_hour_127 ?_
      refine va_getN (D := D) (ci := 0) (C := RX0) (T := TX0) (N := 9) hx hb hts w13 hown hK.1 hP 1 rfl rfl 3 (by decide) (kb_RX6_118 hK) (fun _ h9 => h9) rfl dX6_hour_130 ?_
      refine lv_iload_n hx hb dX6_hour_133 rfl (lv_at hl 1 rfl) ?_
      refine kz_iald hx hb hK hP (4) rfl ((a).toNat) (by omega) (by omega) (by omega) dX6_hour_134 ?_
      exact W.iret hx hb hr (fun t ht hW => ⟨⟨_, (zmix 24 (dy_dn Z) F1, zmix 24 (dy_pu Z) F2, zmix 24 (dy_lo Z) F3, zmix 24 (dy_sp Z) F4, zmix 24 (dy_le Z) F5, zmix 24 (dy_mo Z) F6, zmix 24 (dy_tr Z) F7, zmix 24 (dy_ca Z) F8), rfl, (congrArg iz (by rw [zmix_in (by omega)]; unfold pl_hour; rw [if_pos hin, hs17]; rfl)), by show va_P _ _ _ t.heap; rw [ht]; exact hP⟩, hS.F ht⟩) hS.2.2 dX6_hour_135
    · refine kz_tableIn (v := 6) (tgt := 136) (off := 119) hx hb dX6_hour_17 hs17 (by decide) rfl (by decide) ?_
      refine lv_aload_n hx hb dX6_hour_136 rfl (lv_at hl 0 rfl) ?_
      refine va_get (D := D) (ci := 6) (C := RX6) (T := TX6) (N := 8) hx hb hts w1 hown hK.1 hP 0 rfl rfl 1 (by decide) w0 (fun _ h9 => h9) rfl dX6_hour_137 ?_
      refine va_getN (D := D) (ci := 0) (C := RX0) (T := TX0) (N := 9) hx hb hts w13 hown hK.1 hP 1 rfl rfl 4 (by decide) (kb_RX6_121 hK) (fun _ h9 => h9) rfl dX6_hour_140 ?_
      refine lv_iload_n hx hb dX6_hour_143 rfl (lv_at hl 1 rfl) ?_
      refine kz_iald hx hb hK hP (5) rfl ((a).toNat) (by omega) (by omega) (by omega) dX6_hour_144 ?_
      exact W.iret hx hb hr (fun t ht hW => ⟨⟨_, (zmix 24 (dy_dn Z) F1, zmix 24 (dy_pu Z) F2, zmix 24 (dy_lo Z) F3, zmix 24 (dy_sp Z) F4, zmix 24 (dy_le Z) F5, zmix 24 (dy_mo Z) F6, zmix 24 (dy_tr Z) F7, zmix 24 (dy_ca Z) F8), rfl, (congrArg iz (by rw [zmix_in (by omega)]; unfold pl_hour; rw [if_pos hin, hs17]; rfl)), by show va_P _ _ _ t.heap; rw [ht]; exact hP⟩, hS.F ht⟩) hS.2.2 dX6_hour_145
    · refine kz_tableIn (v := 7) (tgt := 146) (off := 129) hx hb dX6_hour_17 hs17 (by decide) rfl (by decide) ?_
      refine lv_aload_n hx hb dX6_hour_146 rfl (lv_at hl 0 rfl) ?_
      refine va_get (D := D) (ci := 6) (C := RX6) (T := TX6) (N := 8) hx hb hts w1 hown hK.1 hP 0 rfl rfl 1 (by decide) w0 (fun _ h9 => h9) rfl dX6_hour_147 ?_
      refine va_getN (D := D) (ci := 0) (C := RX0) (T := TX0) (N := 9) hx hb hts w13 hown hK.1 hP 1 rfl rfl 5 (by decide) (kb_RX6_124 hK) (fun _ h9 => h9) rfl dX6_hour_150 ?_
      refine lv_iload_n hx hb dX6_hour_153 rfl (lv_at hl 1 rfl) ?_
      refine kz_iald hx hb hK hP (6) rfl ((a).toNat) (by omega) (by omega) (by omega) dX6_hour_154 ?_
      exact W.iret hx hb hr (fun t ht hW => ⟨⟨_, (zmix 24 (dy_dn Z) F1, zmix 24 (dy_pu Z) F2, zmix 24 (dy_lo Z) F3, zmix 24 (dy_sp Z) F4, zmix 24 (dy_le Z) F5, zmix 24 (dy_mo Z) F6, zmix 24 (dy_tr Z) F7, zmix 24 (dy_ca Z) F8), rfl, (congrArg iz (by rw [zmix_in (by omega)]; unfold pl_hour; rw [if_pos hin, hs17]; rfl)), by show va_P _ _ _ t.heap; rw [ht]; exact hP⟩, hS.F ht⟩) hS.2.2 dX6_hour_155
    · refine kz_tableIn (v := 8) (tgt := 156) (off := 139) hx hb dX6_hour_17 hs17 (by decide) rfl (by decide) ?_
      refine lv_aload_n hx hb dX6_hour_156 rfl (lv_at hl 0 rfl) ?_
      refine va_get (D := D) (ci := 6) (C := RX6) (T := TX6) (N := 8) hx hb hts w1 hown hK.1 hP 0 rfl rfl 1 (by decide) w0 (fun _ h9 => h9) rfl dX6_hour_157 ?_
      refine va_getN (D := D) (ci := 0) (C := RX0) (T := TX0) (N := 9) hx hb hts w13 hown hK.1 hP 1 rfl rfl 6 (by decide) (kb_RX6_127 hK) (fun _ h9 => h9) rfl dX6_hour_160 ?_
      refine lv_iload_n hx hb dX6_hour_163 rfl (lv_at hl 1 rfl) ?_
      refine kz_iald hx hb hK hP (7) rfl ((a).toNat) (by omega) (by omega) (by omega) dX6_hour_164 ?_
      refine lv_ldc (v := (1000000 : Int32)) hx hb hown w14 dX6_hour_165 ?_
      refine W.eq (g2 := F0 m 167 ls (.int (iz (1000000)) :: [.int (iz ((zmix 24 (dy_mo Z) F6) ((a).toNat)))])) (by rw [show iz (1000000) = (1000000 : Int32) from by decide]) ?_
      refine kz_add hx hb dX6_hour_167 ?_
      exact W.iret hx hb hr (fun t ht hW => ⟨⟨_, (zmix 24 (dy_dn Z) F1, zmix 24 (dy_pu Z) F2, zmix 24 (dy_lo Z) F3, zmix 24 (dy_sp Z) F4, zmix 24 (dy_le Z) F5, zmix 24 (dy_mo Z) F6, zmix 24 (dy_tr Z) F7, zmix 24 (dy_ca Z) F8), rfl, (congrArg iz (by rw [zmix_in (by omega)]; unfold pl_hour; rw [if_pos hin, hs17]; rfl)), by show va_P _ _ _ t.heap; rw [ht]; exact hP⟩, hS.F ht⟩) hS.2.2 dX6_hour_168
    · refine kz_tableIn (v := 9) (tgt := 169) (off := 152) hx hb dX6_hour_17 hs17 (by decide) rfl (by decide) ?_
      refine lv_aload_n hx hb dX6_hour_169 rfl (lv_at hl 0 rfl) ?_
      refine va_get (D := D) (ci := 6) (C := RX6) (T := TX6) (N := 8) hx hb hts w1 hown hK.1 hP 0 rfl rfl 1 (by decide) w0 (fun _ h9 => h9) rfl dX6_hour_170 ?_
      refine va_getN (D := D) (ci := 0) (C := RX0) (T := TX0) (N := 9) hx hb hts w13 hown hK.1 hP 1 rfl rfl 7 (by decide) (kb_RX6_131 hK) (fun _ h9 => h9) rfl dX6_hour_173 ?_
      refine lv_iload_n hx hb dX6_hour_176 rfl (lv_at hl 1 rfl) ?_
      refine kz_iald hx hb hK hP (8) rfl ((a).toNat) (by omega) (by omega) (by omega) dX6_hour_177 ?_
      exact W.iret hx hb hr (fun t ht hW => ⟨⟨_, (zmix 24 (dy_dn Z) F1, zmix 24 (dy_pu Z) F2, zmix 24 (dy_lo Z) F3, zmix 24 (dy_sp Z) F4, zmix 24 (dy_le Z) F5, zmix 24 (dy_mo Z) F6, zmix 24 (dy_tr Z) F7, zmix 24 (dy_ca Z) F8), rfl, (congrArg iz (by rw [zmix_in (by omega)]; unfold pl_hour; rw [if_pos hin, hs17]; rfl)), by show va_P _ _ _ t.heap; rw [ht]; exact hP⟩, hS.F ht⟩) hS.2.2 dX6_hour_178
    · refine kz_tableIn (v := 10) (tgt := 179) (off := 162) hx hb dX6_hour_17 hs17 (by decide) rfl (by decide) ?_
      refine lv_aload_n hx hb dX6_hour_179 rfl (lv_at hl 0 rfl) ?_
      refine va_get (D := D) (ci := 6) (C := RX6) (T := TX6) (N := 8) hx hb hts w1 hown hK.1 hP 0 rfl rfl 1 (by decide) w0 (fun _ h9 => h9) rfl dX6_hour_180 ?_
      refine va_getN (D := D) (ci := 0) (C := RX0) (T := TX0) (N := 9) hx hb hts w13 hown hK.1 hP 1 rfl rfl 8 (by decide) (kb_RX6_134 hK) (fun _ h9 => h9) rfl dX6_hour_183 ?_
      refine lv_iload_n hx hb dX6_hour_186 rfl (lv_at hl 1 rfl) ?_
      refine kz_iald hx hb hK hP (9) rfl ((a).toNat) (by omega) (by omega) (by omega) dX6_hour_187 ?_
      exact W.iret hx hb hr (fun t ht hW => ⟨⟨_, (zmix 24 (dy_dn Z) F1, zmix 24 (dy_pu Z) F2, zmix 24 (dy_lo Z) F3, zmix 24 (dy_sp Z) F4, zmix 24 (dy_le Z) F5, zmix 24 (dy_mo Z) F6, zmix 24 (dy_tr Z) F7, zmix 24 (dy_ca Z) F8), rfl, (congrArg iz (by rw [zmix_in (by omega)]; unfold pl_hour; rw [if_pos hin, hs17]; rfl)), by show va_P _ _ _ t.heap; rw [ht]; exact hP⟩, hS.F ht⟩) hS.2.2 dX6_hour_188
    · refine kz_tableOut (tgt := 189) hx hb dX6_hour_17 (by omega) hs17 (by decide) ?_
      refine lv_bipush (v := iz (-2)) hx hb dX6_hour_189 (by decide) ?_
      exact W.iret hx hb hr (fun t ht hW => ⟨⟨_, (zmix 24 (dy_dn Z) F1, zmix 24 (dy_pu Z) F2, zmix 24 (dy_lo Z) F3, zmix 24 (dy_sp Z) F4, zmix 24 (dy_le Z) F5, zmix 24 (dy_mo Z) F6, zmix 24 (dy_tr Z) F7, zmix 24 (dy_ca Z) F8), rfl, (congrArg iz (by unfold pl_hour; rw [if_pos hin, pl_hv_out hs17])), by show va_P _ _ _ t.heap; rw [ht]; exact hP⟩, hS.F ht⟩) hS.2.2 dX6_hour_191
  · have hin : ¬ (0 ≤ a ∧ a < 24) := by omega
    refine lv_iconst (v := iz (-1)) hx hb dX6_hour_7 (by decide) ?_
    exact W.iret hx hb hr (fun t ht hW => ⟨⟨_, (F1, F2, F3, F4, F5, F6, F7, F8), rfl, (congrArg iz (by unfold pl_hour; rw [if_neg hin])), by show va_P _ _ _ t.heap; rw [ht]; exact hP⟩, hS.F ht⟩) hS.2.2 dX6_hour_8
set_option maxHeartbeats 4000000 in
set_option maxRecDepth 100000 in
theorem c_X6_day (l : Launch) (D : va_G) (T : Nat → ClassId) (sz : Nat) (px : Nat) (hc : Nat) (so : Nat) (hp : Nat) (ho : Nat) (sl : Nat) (fl : Nat) (hh : Nat) (a1 : Nat) (a2 : Nat) (a3 : Nat) (a4 : Nat) (a5 : Nat) (a6 : Nat) (a7 : Nat) (a8 : Nat) (F1 : Nat → Int) (F2 : Nat → Int) (F3 : Nat → Int) (F4 : Nat → Int) (F5 : Nat → Int) (F6 : Nat → Int) (F7 : Nat → Int) (F8 : Nat → Int) (h0 : Nat) (h1 : Nat) (Z : Nat → Int) (ve : Int) (b : Int) (hib : -2147483648 ≤ b ∧ b < 2147483648) (hV : VL Z) : Met l yX6_day wsX6_day ({ frames := 5, cells := 0, slots := 0, locals := 122 }) (kPc D T [.ref px, .int (iz (b))] (kW D sz [(px, .inr (6, [.ref h0, .ref hc, .ref so, .ref hp, .ref ho, .ref hh, .ref sl, .ref fl])), (hc, .inr (0, [.ref h0, .ref a1, .ref a2, .ref a3, .ref a4, .ref a5, .ref a6, .ref a7, .ref a8])), (a1, .inl (T 0, 24, .inl (zA F1))), (a2, .inl (T 0, 24, .inl (zA F2))), (a3, .inl (T 0, 24, .inl (zA F3))), (a4, .inl (T 0, 24, .inl (zA F4))), (a5, .inl (T 0, 24, .inl (zA F5))), (a6, .inl (T 0, 24, .inl (zA F6))), (a7, .inl (T 0, 24, .inl (zA F7))), (a8, .inl (T 0, 24, .inl (zA F8))), (h0, .inr (2, [.ref h1, .int (iz (ve))])), (h1, .inl (T 0, 115, .inl (zA Z)))])) (va_Qi (fun (r : Int32) (u : (Nat → Int) × (Nat → Int) × (Nat → Int) × (Nat → Int) × (Nat → Int) × (Nat → Int) × (Nat → Int) × (Nat → Int)) => r = iz (pl_day Z b)) (fun (u : (Nat → Int) × (Nat → Int) × (Nat → Int) × (Nat → Int) × (Nat → Int) × (Nat → Int) × (Nat → Int) × (Nat → Int)) (t : State) => va_P D vwCl [(px, .inr (6, [.ref h0, .ref hc, .ref so, .ref hp, .ref ho, .ref hh, .ref sl, .ref fl])), (hc, .inr (0, [.ref h0, .ref a1, .ref a2, .ref a3, .ref a4, .ref a5, .ref a6, .ref a7, .ref a8])), (a1, .inl (T 0, 24, .inl (zA u.1))), (a2, .inl (T 0, 24, .inl (zA u.2.1))), (a3, .inl (T 0, 24, .inl (zA u.2.2.1))), (a4, .inl (T 0, 24, .inl (zA u.2.2.2.1))), (a5, .inl (T 0, 24, .inl (zA u.2.2.2.2.1))), (a6, .inl (T 0, 24, .inl (zA u.2.2.2.2.2.1))), (a7, .inl (T 0, 24, .inl (zA u.2.2.2.2.2.2.1))), (a8, .inl (T 0, 24, .inl (zA u.2.2.2.2.2.2.2))), (h0, .inr (2, [.ref h1, .int (iz (ve))])), (h1, .inl (T 0, 115, .inl (zA Z)))] t.heap) (va_A [(px, .inr (6, [.ref h0, .ref hc, .ref so, .ref hp, .ref ho, .ref hh, .ref sl, .ref fl])), (hc, .inr (0, [.ref h0, .ref a1, .ref a2, .ref a3, .ref a4, .ref a5, .ref a6, .ref a7, .ref a8])), (a1, .inl (T 0, 24, .inl (zA F1))), (a2, .inl (T 0, 24, .inl (zA F2))), (a3, .inl (T 0, 24, .inl (zA F3))), (a4, .inl (T 0, 24, .inl (zA F4))), (a5, .inl (T 0, 24, .inl (zA F5))), (a6, .inl (T 0, 24, .inl (zA F6))), (a7, .inl (T 0, 24, .inl (zA F7))), (a8, .inl (T 0, 24, .inl (zA F8))), (h0, .inr (2, [.ref h1, .int (iz (ve))])), (h1, .inl (T 0, 115, .inl (zA Z)))] sz)) 0 0 (va_A [(px, .inr (6, [.ref h0, .ref hc, .ref so, .ref hp, .ref ho, .ref hh, .ref sl, .ref fl])), (hc, .inr (0, [.ref h0, .ref a1, .ref a2, .ref a3, .ref a4, .ref a5, .ref a6, .ref a7, .ref a8])), (a1, .inl (T 0, 24, .inl (zA F1))), (a2, .inl (T 0, 24, .inl (zA F2))), (a3, .inl (T 0, 24, .inl (zA F3))), (a4, .inl (T 0, 24, .inl (zA F4))), (a5, .inl (T 0, 24, .inl (zA F5))), (a6, .inl (T 0, 24, .inl (zA F6))), (a7, .inl (T 0, 24, .inl (zA F7))), (a8, .inl (T 0, 24, .inl (zA F8))), (h0, .inr (2, [.ref h1, .int (iz (ve))])), (h1, .inl (T 0, 115, .inl (zA Z)))] sz) := by
  refine Met.ofW (cc := cX6_day) (maxL := 2) (ret := (some .int)) (by decide) rfl ?_
  intro p e s m args below meth c s₁ B hml hv
  obtain ⟨rfl, hK, hsz, hP, hD0⟩ := hv
  have hx := B.exec
  have hb := B.bytes
  have hr := B.returns
  have hts := atoms_spec (ws := wsX6_day) B.pre
  have hown : s.vm.findClass RX6 = some m.cls := findClass_of_methodNamed B.named
  have hlocks := B.notSynchronized
  have w0 := hts (.fieldLink RX6 21 "LakePlant" "course" "LLakePlant$Course;") (List.mem_of_getElem? (i := 1) rfl)
  have w1 : ∀ w ∈ wsX60, w ∈ wsX6_day := by decide +kernel
  have w2 := hts (.initialized RX0) (List.mem_of_getElem? (i := 4) rfl)
  have w3 := hts (.instanceMethod yX0_follow) (List.mem_of_getElem? (i := 3) rfl)
  have w4 := hts (.selects RX0 yX0_follow yX0_follow) (List.mem_of_getElem? (i := 5) rfl)
  have w5 : ∀ w ∈ wsX00, w ∈ wsX6_day := by decide +kernel
  have w6 := hts (.instanceMethod yX0_levelInTheEnd) (List.mem_of_getElem? (i := 90) rfl)
  have w7 := hts (.selects RX0 yX0_levelInTheEnd yX0_levelInTheEnd) (List.mem_of_getElem? (i := 91) rfl)
  have w8 := hts (.instanceMethod yX0_hoursWith) (List.mem_of_getElem? (i := 93) rfl)
  have w9 := hts (.selects RX0 yX0_hoursWith yX0_hoursWith) (List.mem_of_getElem? (i := 94) rfl)
  have w10 := hts (.instanceMethod yX0_missedContracts) (List.mem_of_getElem? (i := 107) rfl)
  have w11 := hts (.selects RX0 yX0_missedContracts yX0_missedContracts) (List.mem_of_getElem? (i := 108) rfl)
  have w12 := hts (.fieldLink RX6 10 "LakePlant" "lake" "LLakePlant$Lake;") (List.mem_of_getElem? (i := 2) rfl)
  have w13 := hts (.initialized RX2) (List.mem_of_getElem? (i := 12) rfl)
  have w14 := hts (.instanceMethod yX2_settingOf) (List.mem_of_getElem? (i := 11) rfl)
  have w15 := hts (.selects RX2 yX2_settingOf yX2_settingOf) (List.mem_of_getElem? (i := 13) rfl)
  have w16 := hts (.instanceMethod yX2_allInflows) (List.mem_of_getElem? (i := 110) rfl)
  have w17 := hts (.selects RX2 yX2_allInflows yX2_allInflows) (List.mem_of_getElem? (i := 111) rfl)
  subst hsz
  have hD := hD0.self (sz := s.heap.size)
  generalize hAe : va_A [(px, .inr (6, [.ref h0, .ref hc, .ref so, .ref hp, .ref ho, .ref hh, .ref sl, .ref fl])), (hc, .inr (0, [.ref h0, .ref a1, .ref a2, .ref a3, .ref a4, .ref a5, .ref a6, .ref a7, .ref a8])), (a1, .inl (T 0, 24, .inl (zA F1))), (a2, .inl (T 0, 24, .inl (zA F2))), (a3, .inl (T 0, 24, .inl (zA F3))), (a4, .inl (T 0, 24, .inl (zA F4))), (a5, .inl (T 0, 24, .inl (zA F5))), (a6, .inl (T 0, 24, .inl (zA F6))), (a7, .inl (T 0, 24, .inl (zA F7))), (a8, .inl (T 0, 24, .inl (zA F8))), (h0, .inr (2, [.ref h1, .int (iz (ve))])), (h1, .inl (T 0, 115, .inl (zA Z)))] s.heap.size = A at hD ⊢
  have hA : ∀ q : Nat, s.heap.size ≤ q → A q := fun q h => by rw [← hAe]; exact Or.inr h
  have hS : va_S A s.heap s.heap [] := va_S.rf
  have hP : va_P D vwCl [(px, .inr (6, [.ref h0, .ref hc, .ref so, .ref hp, .ref ho, .ref hh, .ref sl, .ref fl])), (hc, .inr (0, [.ref h0, .ref a1, .ref a2, .ref a3, .ref a4, .ref a5, .ref a6, .ref a7, .ref a8])), (a1, .inl (T 0, 24, .inl (zA F1))), (a2, .inl (T 0, 24, .inl (zA F2))), (a3, .inl (T 0, 24, .inl (zA F3))), (a4, .inl (T 0, 24, .inl (zA F4))), (a5, .inl (T 0, 24, .inl (zA F5))), (a6, .inl (T 0, 24, .inl (zA F6))), (a7, .inl (T 0, 24, .inl (zA F7))), (a8, .inl (T 0, 24, .inl (zA F8))), (h0, .inr (2, [.ref h1, .int (iz (ve))])), (h1, .inl (T 0, 115, .inl (zA Z)))] s.heap := hP
  have hl := lv_entry ([.ref px, .int (iz (b))]) (n := 2) (Nat.le_of_ble_eq_true rfl)
  rw [lg_entry_eq]
  generalize (lg_sl ([.ref px, .int (iz (b))]) ++ List.replicate (2 - (lg_sl ([.ref px, .int (iz (b))])).length) Slot.unset).toArray = ls at hl ⊢
  have hl : lv_has ls 2 [(0, .ref px), (1, .int (iz (b)))] := hl
  have hs := hV.1
  unfold VS at hs
  refine lv_aload_n hx hb dX6_day_0 rfl (lv_at hl 0 rfl) ?_
  refine va_get (D := D) (ci := 6) (C := RX6) (T := TX6) (N := 8) hx hb hts w1 hown hK.1 hP 0 rfl rfl 1 (by decide) w0 (fun _ h9 => h9) rfl dX6_day_1 ?_
  refine kc_wv (va_runVN (As := []) (rest := []) ⟨hx, hb, hml, hown, hts⟩ (c_X0_follow l D T s.heap.size hc a1 a2 a3 a4 a5 a6 a7 a8 F1 F2 F3 F4 F5 F6 F7 F8 h0 h1 Z ve hV) ⟨va_cnB 0 hts gX6_day_X0_follow_n99 rfl rfl rfl (kn_RX6_99 hK) w2 (by decide +kernel) ⟨Nat.le_of_ble_eq_true rfl, Nat.le_of_ble_eq_true rfl⟩, w3, w4⟩ (kPc.v hK (va_recv hK.1 hP (ci := 0) (q0 := 1) rfl rfl) (kW.cut hP hD [1, 2, 3, 4, 5, 6, 7, 8, 9, 10, 11] rfl (by rfl))) rfl rfl hl.1 rfl (lv_room (Nat.le_of_ble_eq_true rfl)) dX6_day_4 ⟨Nat.zero_le _, Nat.zero_le _⟩) hP hD hS hA [1, 2, 3, 4, 5, 6, 7, 8, 9, 10, 11] rfl (fun _ => rfl) (fun u H locs hr1 hP hD hS => ?_)
  have hP : va_P D vwCl [(px, .inr (6, [.ref h0, .ref hc, .ref so, .ref hp, .ref ho, .ref hh, .ref sl, .ref fl])), (hc, .inr (0, [.ref h0, .ref a1, .ref a2, .ref a3, .ref a4, .ref a5, .ref a6, .ref a7, .ref a8])), (a1, .inl (T 0, 24, .inl (zA (zmix 24 (dy_dn Z) F1)))), (a2, .inl (T 0, 24, .inl (zA (zmix 24 (dy_pu Z) F2)))), (a3, .inl (T 0, 24, .inl (zA (zmix 24 (dy_lo Z) F3)))), (a4, .inl (T 0, 24, .inl (zA (zmix 24 (dy_sp Z) F4)))), (a5, .inl (T 0, 24, .inl (zA (zmix 24 (dy_le Z) F5)))), (a6, .inl (T 0, 24, .inl (zA (zmix 24 (dy_mo Z) F6)))), (a7, .inl (T 0, 24, .inl (zA (zmix 24 (dy_tr Z) F7)))), (a8, .inl (T 0, 24, .inl (zA (zmix 24 (dy_ca Z) F8)))), (h0, .inr (2, [.ref h1, .int (iz (ve))])), (h1, .inl (T 0, 115, .inl (zA Z)))] H := hP
  have hD : va_D A [(px, .inr (6, [.ref h0, .ref hc, .ref so, .ref hp, .ref ho, .ref hh, .ref sl, .ref fl])), (hc, .inr (0, [.ref h0, .ref a1, .ref a2, .ref a3, .ref a4, .ref a5, .ref a6, .ref a7, .ref a8])), (a1, .inl (T 0, 24, .inl (zA (zmix 24 (dy_dn Z) F1)))), (a2, .inl (T 0, 24, .inl (zA (zmix 24 (dy_pu Z) F2)))), (a3, .inl (T 0, 24, .inl (zA (zmix 24 (dy_lo Z) F3)))), (a4, .inl (T 0, 24, .inl (zA (zmix 24 (dy_sp Z) F4)))), (a5, .inl (T 0, 24, .inl (zA (zmix 24 (dy_le Z) F5)))), (a6, .inl (T 0, 24, .inl (zA (zmix 24 (dy_mo Z) F6)))), (a7, .inl (T 0, 24, .inl (zA (zmix 24 (dy_tr Z) F7)))), (a8, .inl (T 0, 24, .inl (zA (zmix 24 (dy_ca Z) F8)))), (h0, .inr (2, [.ref h1, .int (iz (ve))])), (h1, .inl (T 0, 115, .inl (zA Z)))] := hD
  refine lv_iload_n hx hb dX6_day_7 rfl (lv_at hl 1 rfl) ?_
  rcases (show b = 0 ∨ b = 1 ∨ b = 2 ∨ b = 3 ∨ b = 4 ∨ b = 5 ∨ b = 6 ∨ b = 7 ∨ b = 8 ∨ b = 9 ∨ b = 10 ∨ (b < 0 ∨ 10 < b) from (by omega)) with hs8 | hs8 | hs8 | hs8 | hs8 | hs8 | hs8 | hs8 | hs8 | hs8 | hs8 | hs8
  · refine kz_tableIn (v := 0) (tgt := 68) (off := 60) hx hb dX6_day_8 hs8 (by decide) rfl (by decide) ?_
    refine lv_aload_n hx hb dX6_day_68 rfl (lv_at hl 0 rfl) ?_
    refine kc_i (va_runV (As := []) (rest := []) ⟨hx, hb, hml, hown, hts⟩ (c_X6_moneyOfDay l D T px hc so hp ho sl fl h0 hh a1 a2 a3 a4 a5 a6 a7 a8 (zmix 24 (dy_mo Z) F6)) (cwV 0 hts gX6_day_X6_moneyOfDay rfl rfl rfl (by decide +kernel) ⟨Nat.le_of_ble_eq_true rfl, Nat.le_of_ble_eq_true rfl⟩) (kPc.v hK (va_recv hK.1 hP (ci := 6) (q0 := 0) rfl rfl) (kcut hP [0, 1, 7] rfl)) rfl rfl hl.1 rfl (lv_room (Nat.le_of_ble_eq_true rfl)) dX6_day_69 ⟨Nat.zero_le _, Nat.zero_le _⟩) (fun r2 hr2 => ?_)
    subst hr2
    exact W.iret hx hb hr (fun t ht hW => ⟨⟨_, (zmix 24 (dy_dn Z) F1, zmix 24 (dy_pu Z) F2, zmix 24 (dy_lo Z) F3, zmix 24 (dy_sp Z) F4, zmix 24 (dy_le Z) F5, zmix 24 (dy_mo Z) F6, zmix 24 (dy_tr Z) F7, zmix 24 (dy_ca Z) F8), rfl, (congrArg iz (by rw [hs8, zsum_mix]; rfl)), by show va_P _ _ _ t.heap; rw [ht]; exact hP⟩, hS.F ht⟩) hS.2.2 dX6_day_72
  · refine kz_tableIn (v := 1) (tgt := 73) (off := 65) hx hb dX6_day_8 hs8 (by decide) rfl (by decide) ?_
    refine lv_aload_n hx hb dX6_day_73 rfl (lv_at hl 0 rfl) ?_
    refine va_get (D := D) (ci := 6) (C := RX6) (T := TX6) (N := 8) hx hb hts w1 hown hK.1 hP 0 rfl rfl 1 (by decide) w0 (fun _ h9 => h9) rfl dX6_day_74 ?_
    refine va_getN (D := D) (ci := 0) (C := RX0) (T := TX0) (N := 9) hx hb hts w5 hown hK.1 hP 1 rfl rfl 1 (by decide) (kb_RX6_111 hK) (fun _ h9 => h9) rfl dX6_day_77 ?_
    refine kc_i (va_runS (As := [.ref a1]) (rest := []) ⟨hx, hb, hml, hown, hts⟩ (c_X6_sumOf l D T a1 (zmix 24 (dy_dn Z) F1)) (va_cwS 1 hts gX6_day_X6_sumOf rfl rfl rfl (by decide +kernel) ⟨Nat.le_of_ble_eq_true rfl, Nat.le_of_ble_eq_true rfl⟩) (kPc.s hK (kcut hP [2] rfl)) rfl rfl hl.1 rfl (lv_room (Nat.le_of_ble_eq_true rfl)) dX6_day_80 ⟨Nat.zero_le _, Nat.zero_le _⟩) (fun r3 hr3 => ?_)
    subst hr3
    exact W.iret hx hb hr (fun t ht hW => ⟨⟨_, (zmix 24 (dy_dn Z) F1, zmix 24 (dy_pu Z) F2, zmix 24 (dy_lo Z) F3, zmix 24 (dy_sp Z) F4, zmix 24 (dy_le Z) F5, zmix 24 (dy_mo Z) F6, zmix 24 (dy_tr Z) F7, zmix 24 (dy_ca Z) F8), rfl, (congrArg iz (by rw [hs8, zsum_mix]; rfl)), by show va_P _ _ _ t.heap; rw [ht]; exact hP⟩, hS.F ht⟩) hS.2.2 dX6_day_83
  · refine kz_tableIn (v := 2) (tgt := 84) (off := 76) hx hb dX6_day_8 hs8 (by decide) rfl (by decide) ?_
    refine lv_aload_n hx hb dX6_day_84 rfl (lv_at hl 0 rfl) ?_
    refine va_get (D := D) (ci := 6) (C := RX6) (T := TX6) (N := 8) hx hb hts w1 hown hK.1 hP 0 rfl rfl 1 (by decide) w0 (fun _ h9 => h9) rfl dX6_day_85 ?_
    refine va_getN (D := D) (ci := 0) (C := RX0) (T := TX0) (N := 9) hx hb hts w5 hown hK.1 hP 1 rfl rfl 2 (by decide) (kb_RX6_115 hK) (fun _ h9 => h9) rfl dX6_day_88 ?_
    refine kc_i (va_runS (As := [.ref a2]) (rest := []) ⟨hx, hb, hml, hown, hts⟩ (c_X6_sumOf l D T a2 (zmix 24 (dy_pu Z) F2)) (va_cwS 1 hts gX6_day_X6_sumOf rfl rfl rfl (by decide +kernel) ⟨Nat.le_of_ble_eq_true rfl, Nat.le_of_ble_eq_true rfl⟩) (kPc.s hK (kcut hP [3] rfl)) rfl rfl hl.1 rfl (lv_room (Nat.le_of_ble_eq_true rfl)) dX6_day_91 ⟨Nat.zero_le _, Nat.zero_le _⟩) (fun r4 hr4 => ?_)
    subst hr4
    exact W.iret hx hb hr (fun t ht hW => ⟨⟨_, (zmix 24 (dy_dn Z) F1, zmix 24 (dy_pu Z) F2, zmix 24 (dy_lo Z) F3, zmix 24 (dy_sp Z) F4, zmix 24 (dy_le Z) F5, zmix 24 (dy_mo Z) F6, zmix 24 (dy_tr Z) F7, zmix 24 (dy_ca Z) F8), rfl, (congrArg iz (by rw [hs8, zsum_mix]; rfl)), by show va_P _ _ _ t.heap; rw [ht]; exact hP⟩, hS.F ht⟩) hS.2.2 dX6_day_94
  · refine kz_tableIn (v := 3) (tgt := 95) (off := 87) hx hb dX6_day_8 hs8 (by decide) rfl (by decide) ?_
    refine lv_aload_n hx hb dX6_day_95 rfl (lv_at hl 0 rfl) ?_
    refine va_get (D := D) (ci := 6) (C := RX6) (T := TX6) (N := 8) hx hb hts w1 hown hK.1 hP 0 rfl rfl 1 (by decide) w0 (fun _ h9 => h9) rfl dX6_day_96 ?_
    refine va_getN (D := D) (ci := 0) (C := RX0) (T := TX0) (N := 9) hx hb hts w5 hown hK.1 hP 1 rfl rfl 3 (by decide) (kb_RX6_118 hK) (fun _ h9 => h9) rfl dX6_day_99 ?_
    refine kc_i (va_runS (As := [.ref a3]) (rest := []) ⟨hx, hb, hml, hown, hts⟩ (c_X6_sumOf l D T a3 (zmix 24 (dy_lo Z) F3)) (va_cwS 1 hts gX6_day_X6_sumOf rfl rfl rfl (by decide +kernel) ⟨Nat.le_of_ble_eq_true rfl, Nat.le_of_ble_eq_true rfl⟩) (kPc.s hK (kcut hP [4] rfl)) rfl rfl hl.1 rfl (lv_room (Nat.le_of_ble_eq_true rfl)) dX6_day_102 ⟨Nat.zero_le _, Nat.zero_le _⟩) (fun r5 hr5 => ?_)
    subst hr5
    exact W.iret hx hb hr (fun t ht hW => ⟨⟨_, (zmix 24 (dy_dn Z) F1, zmix 24 (dy_pu Z) F2, zmix 24 (dy_lo Z) F3, zmix 24 (dy_sp Z) F4, zmix 24 (dy_le Z) F5, zmix 24 (dy_mo Z) F6, zmix 24 (dy_tr Z) F7, zmix 24 (dy_ca Z) F8), rfl, (congrArg iz (by rw [hs8, zsum_mix]; rfl)), by show va_P _ _ _ t.heap; rw [ht]; exact hP⟩, hS.F ht⟩) hS.2.2 dX6_day_105
  · refine kz_tableIn (v := 4) (tgt := 106) (off := 98) hx hb dX6_day_8 hs8 (by decide) rfl (by decide) ?_
    refine lv_aload_n hx hb dX6_day_106 rfl (lv_at hl 0 rfl) ?_
    refine va_get (D := D) (ci := 6) (C := RX6) (T := TX6) (N := 8) hx hb hts w1 hown hK.1 hP 0 rfl rfl 1 (by decide) w0 (fun _ h9 => h9) rfl dX6_day_107 ?_
    refine va_getN (D := D) (ci := 0) (C := RX0) (T := TX0) (N := 9) hx hb hts w5 hown hK.1 hP 1 rfl rfl 4 (by decide) (kb_RX6_121 hK) (fun _ h9 => h9) rfl dX6_day_110 ?_
    refine kc_i (va_runS (As := [.ref a4]) (rest := []) ⟨hx, hb, hml, hown, hts⟩ (c_X6_sumOf l D T a4 (zmix 24 (dy_sp Z) F4)) (va_cwS 1 hts gX6_day_X6_sumOf rfl rfl rfl (by decide +kernel) ⟨Nat.le_of_ble_eq_true rfl, Nat.le_of_ble_eq_true rfl⟩) (kPc.s hK (kcut hP [5] rfl)) rfl rfl hl.1 rfl (lv_room (Nat.le_of_ble_eq_true rfl)) dX6_day_113 ⟨Nat.zero_le _, Nat.zero_le _⟩) (fun r6 hr6 => ?_)
    subst hr6
    exact W.iret hx hb hr (fun t ht hW => ⟨⟨_, (zmix 24 (dy_dn Z) F1, zmix 24 (dy_pu Z) F2, zmix 24 (dy_lo Z) F3, zmix 24 (dy_sp Z) F4, zmix 24 (dy_le Z) F5, zmix 24 (dy_mo Z) F6, zmix 24 (dy_tr Z) F7, zmix 24 (dy_ca Z) F8), rfl, (congrArg iz (by rw [hs8, zsum_mix]; rfl)), by show va_P _ _ _ t.heap; rw [ht]; exact hP⟩, hS.F ht⟩) hS.2.2 dX6_day_116
  · refine kz_tableIn (v := 5) (tgt := 117) (off := 109) hx hb dX6_day_8 hs8 (by decide) rfl (by decide) ?_
    refine lv_aload_n hx hb dX6_day_117 rfl (lv_at hl 0 rfl) ?_
    refine va_get (D := D) (ci := 6) (C := RX6) (T := TX6) (N := 8) hx hb hts w1 hown hK.1 hP 0 rfl rfl 1 (by decide) w0 (fun _ h9 => h9) rfl dX6_day_118 ?_
    refine kc_i (va_runVN (As := []) (rest := []) ⟨hx, hb, hml, hown, hts⟩ (c_X0_levelInTheEnd l D T hc a1 a2 a3 a4 a5 a6 a7 a8 h0 (zmix 24 (dy_le Z) F5)) ⟨va_cnB 0 hts gX6_day_X0_levelInTheEnd_n153 rfl rfl rfl (kn_RX6_153 hK) w2 (by decide +kernel) ⟨Nat.le_of_ble_eq_true rfl, Nat.le_of_ble_eq_true rfl⟩, w6, w7⟩ (kPc.v hK (va_recv hK.1 hP (ci := 0) (q0 := 1) rfl rfl) (kcut hP [1, 6] rfl)) rfl rfl hl.1 rfl (lv_room (Nat.le_of_ble_eq_true rfl)) dX6_day_121 ⟨Nat.zero_le _, Nat.zero_le _⟩) (fun r7 hr7 => ?_)
    subst hr7
    exact W.iret hx hb hr (fun t ht hW => ⟨⟨_, (zmix 24 (dy_dn Z) F1, zmix 24 (dy_pu Z) F2, zmix 24 (dy_lo Z) F3, zmix 24 (dy_sp Z) F4, zmix 24 (dy_le Z) F5, zmix 24 (dy_mo Z) F6, zmix 24 (dy_tr Z) F7, zmix 24 (dy_ca Z) F8), rfl, (congrArg iz (by rw [hs8, zmix_in (by omega)]; rfl)), by show va_P _ _ _ t.heap; rw [ht]; exact hP⟩, hS.F ht⟩) hS.2.2 dX6_day_124
  · refine kz_tableIn (v := 6) (tgt := 125) (off := 117) hx hb dX6_day_8 hs8 (by decide) rfl (by decide) ?_
    refine lv_aload_n hx hb dX6_day_125 rfl (lv_at hl 0 rfl) ?_
    refine va_get (D := D) (ci := 6) (C := RX6) (T := TX6) (N := 8) hx hb hts w1 hown hK.1 hP 0 rfl rfl 1 (by decide) w0 (fun _ h9 => h9) rfl dX6_day_126 ?_
    refine lv_iconst (v := iz (1)) hx hb dX6_day_129 (by decide) ?_
    refine kc_i (va_runVN (As := [.int (iz (1))]) (rest := []) ⟨hx, hb, hml, hown, hts⟩ (c_X0_hoursWith l D T hc a1 a2 a3 a4 a5 a6 a7 a8 h0 (zmix 24 (dy_tr Z) F7) (fun r hr => by rw [zmix_in hr]; have := (dy_rng hV hr).2.2.2.1; omega) 1 (by omega)) ⟨va_cnB 1 hts gX6_day_X0_hoursWith_n156 rfl rfl rfl (kn_RX6_156 hK) w2 (by decide +kernel) ⟨Nat.le_of_ble_eq_true rfl, Nat.le_of_ble_eq_true rfl⟩, w8, w9⟩ (kPc.v hK (va_recv hK.1 hP (ci := 0) (q0 := 1) rfl rfl) (kcut hP [1, 8] rfl)) rfl rfl hl.1 rfl (lv_room (Nat.le_of_ble_eq_true rfl)) dX6_day_130 ⟨Nat.zero_le _, Nat.zero_le _⟩) (fun r8 hr8 => ?_)
    subst hr8
    exact W.iret hx hb hr (fun t ht hW => ⟨⟨_, (zmix 24 (dy_dn Z) F1, zmix 24 (dy_pu Z) F2, zmix 24 (dy_lo Z) F3, zmix 24 (dy_sp Z) F4, zmix 24 (dy_le Z) F5, zmix 24 (dy_mo Z) F6, zmix 24 (dy_tr Z) F7, zmix 24 (dy_ca Z) F8), rfl, (congrArg iz (by rw [hs8, nb_mix]; rfl)), by show va_P _ _ _ t.heap; rw [ht]; exact hP⟩, hS.F ht⟩) hS.2.2 dX6_day_133
  · refine kz_tableIn (v := 7) (tgt := 134) (off := 126) hx hb dX6_day_8 hs8 (by decide) rfl (by decide) ?_
    refine lv_aload_n hx hb dX6_day_134 rfl (lv_at hl 0 rfl) ?_
    refine va_get (D := D) (ci := 6) (C := RX6) (T := TX6) (N := 8) hx hb hts w1 hown hK.1 hP 0 rfl rfl 1 (by decide) w0 (fun _ h9 => h9) rfl dX6_day_135 ?_
    refine lv_iconst (v := iz (1)) hx hb dX6_day_138 (by decide) ?_
    refine kc_i (va_runVN (As := [.int (iz (1))]) (rest := []) ⟨hx, hb, hml, hown, hts⟩ (c_X0_hoursWith l D T hc a1 a2 a3 a4 a5 a6 a7 a8 h0 (zmix 24 (dy_tr Z) F7) (fun r hr => by rw [zmix_in hr]; have := (dy_rng hV hr).2.2.2.1; omega) 1 (by omega)) ⟨va_cnB 1 hts gX6_day_X0_hoursWith_n156 rfl rfl rfl (kn_RX6_156 hK) w2 (by decide +kernel) ⟨Nat.le_of_ble_eq_true rfl, Nat.le_of_ble_eq_true rfl⟩, w8, w9⟩ (kPc.v hK (va_recv hK.1 hP (ci := 0) (q0 := 1) rfl rfl) (kcut hP [1, 8] rfl)) rfl rfl hl.1 rfl (lv_room (Nat.le_of_ble_eq_true rfl)) dX6_day_139 ⟨Nat.zero_le _, Nat.zero_le _⟩) (fun r9 hr9 => ?_)
    subst hr9
    refine lv_aload_n hx hb dX6_day_142 rfl (lv_at hl 0 rfl) ?_
    refine va_get (D := D) (ci := 6) (C := RX6) (T := TX6) (N := 8) hx hb hts w1 hown hK.1 hP 0 rfl rfl 1 (by decide) w0 (fun _ h9 => h9) rfl dX6_day_143 ?_
    refine lv_iconst (v := iz (2)) hx hb dX6_day_146 (by decide) ?_
    refine kc_i (va_runVN (As := [.int (iz (2))]) (rest := [.int (iz (((nb (zmix 24 (dy_tr Z) F7) 1 24 : Nat) : Int)))]) ⟨hx, hb, hml, hown, hts⟩ (c_X0_hoursWith l D T hc a1 a2 a3 a4 a5 a6 a7 a8 h0 (zmix 24 (dy_tr Z) F7) (fun r hr => by rw [zmix_in hr]; have := (dy_rng hV hr).2.2.2.1; omega) 2 (by omega)) ⟨va_cnB 1 hts gX6_day_X0_hoursWith_n156 rfl rfl rfl (kn_RX6_156 hK) w2 (by decide +kernel) ⟨Nat.le_of_ble_eq_true rfl, Nat.le_of_ble_eq_true rfl⟩, w8, w9⟩ (kPc.v hK (va_recv hK.1 hP (ci := 0) (q0 := 1) rfl rfl) (kcut hP [1, 8] rfl)) rfl rfl hl.1 rfl (lv_room (Nat.le_of_ble_eq_true rfl)) dX6_day_147 ⟨Nat.zero_le _, Nat.zero_le _⟩) (fun r10 hr10 => ?_)
    subst hr10
    refine kz_add hx hb dX6_day_150 ?_
    exact W.iret hx hb hr (fun t ht hW => ⟨⟨_, (zmix 24 (dy_dn Z) F1, zmix 24 (dy_pu Z) F2, zmix 24 (dy_lo Z) F3, zmix 24 (dy_sp Z) F4, zmix 24 (dy_le Z) F5, zmix 24 (dy_mo Z) F6, zmix 24 (dy_tr Z) F7, zmix 24 (dy_ca Z) F8), rfl, (congrArg iz (by rw [hs8, nb_mix, nb_mix]; rfl)), by show va_P _ _ _ t.heap; rw [ht]; exact hP⟩, hS.F ht⟩) hS.2.2 dX6_day_151
  · refine kz_tableIn (v := 8) (tgt := 152) (off := 144) hx hb dX6_day_8 hs8 (by decide) rfl (by decide) ?_
    refine lv_aload_n hx hb dX6_day_152 rfl (lv_at hl 0 rfl) ?_
    refine va_get (D := D) (ci := 6) (C := RX6) (T := TX6) (N := 8) hx hb hts w1 hown hK.1 hP 0 rfl rfl 1 (by decide) w0 (fun _ h9 => h9) rfl dX6_day_153 ?_
    refine kc_i (va_runVN (As := []) (rest := []) ⟨hx, hb, hml, hown, hts⟩ (c_X0_missedContracts l D T hc a1 a2 a3 a4 a5 a6 a7 a8 (zmix 24 (dy_dn Z) F1) h0 h1 Z ve hV (fun r hr => by rw [zmix_in hr]; exact (dy_rng hV hr).1)) ⟨va_cnB 0 hts gX6_day_X0_missedContracts_n159 rfl rfl rfl (kn_RX6_159 hK) w2 (by decide +kernel) ⟨Nat.le_of_ble_eq_true rfl, Nat.le_of_ble_eq_true rfl⟩, w10, w11⟩ (kPc.v hK (va_recv hK.1 hP (ci := 0) (q0 := 1) rfl rfl) (kcut hP [1, 2, 10, 11] rfl)) rfl rfl hl.1 rfl (lv_room (Nat.le_of_ble_eq_true rfl)) dX6_day_156 ⟨Nat.zero_le _, Nat.zero_le _⟩) (fun r11 hr11 => ?_)
    subst hr11
    exact W.iret hx hb hr (fun t ht hW => ⟨⟨_, (zmix 24 (dy_dn Z) F1, zmix 24 (dy_pu Z) F2, zmix 24 (dy_lo Z) F3, zmix 24 (dy_sp Z) F4, zmix 24 (dy_le Z) F5, zmix 24 (dy_mo Z) F6, zmix 24 (dy_tr Z) F7, zmix 24 (dy_ca Z) F8), rfl, (congrArg iz (by rw [hs8]; exact zsum_congr 24 (fun j hj => by rw [zmix_in hj]))), by show va_P _ _ _ t.heap; rw [ht]; exact hP⟩, hS.F ht⟩) hS.2.2 dX6_day_159
  · refine kz_tableIn (v := 9) (tgt := 160) (off := 152) hx hb dX6_day_8 hs8 (by decide) rfl (by decide) ?_
    refine lv_aload_n hx hb dX6_day_160 rfl (lv_at hl 0 rfl) ?_
    refine va_get (D := D) (ci := 6) (C := RX6) (T := TX6) (N := 8) hx hb hts w1 hown hK.1 hP 0 rfl rfl 1 (by decide) w0 (fun _ h9 => h9) rfl dX6_day_161 ?_
    refine kc_i (va_runVN (As := []) (rest := []) ⟨hx, hb, hml, hown, hts⟩ (c_X0_levelInTheEnd l D T hc a1 a2 a3 a4 a5 a6 a7 a8 h0 (zmix 24 (dy_le Z) F5)) ⟨va_cnB 0 hts gX6_day_X0_levelInTheEnd_n153 rfl rfl rfl (kn_RX6_153 hK) w2 (by decide +kernel) ⟨Nat.le_of_ble_eq_true rfl, Nat.le_of_ble_eq_true rfl⟩, w6, w7⟩ (kPc.v hK (va_recv hK.1 hP (ci := 0) (q0 := 1) rfl rfl) (kcut hP [1, 6] rfl)) rfl rfl hl.1 rfl (lv_room (Nat.le_of_ble_eq_true rfl)) dX6_day_164 ⟨Nat.zero_le _, Nat.zero_le _⟩) (fun r12 hr12 => ?_)
    subst hr12
    refine kz_top (y := dy_le Z 23) (zmix_in (by omega)) ?_
    have hle23 := (dy_rng hV (show 23 < 24 by omega)).2.2.1
    refine lv_aload_n hx hb dX6_day_167 rfl (lv_at hl 0 rfl) ?_
    refine va_get (D := D) (ci := 6) (C := RX6) (T := TX6) (N := 8) hx hb hts w1 hown hK.1 hP 0 rfl rfl 0 (by decide) w12 (fun _ h9 => h9) rfl dX6_day_168 ?_
    refine lv_bipush (v := iz (8)) hx hb dX6_day_171 (by decide) ?_
    refine kz_top (y := ((8 : Nat) : Int)) rfl ?_
    refine kc_i (va_runVN (As := [.int (iz (((8 : Nat) : Int)))]) (rest := [.int (iz (dy_le Z 23))]) ⟨hx, hb, hml, hown, hts⟩ (c_X2_settingOf l D T h0 h1 Z ve 8 (by omega)) ⟨va_cnB 1 hts gX6_day_X2_settingOf_n162 rfl rfl rfl (kn_RX6_162 hK) w13 (by decide +kernel) ⟨Nat.le_of_ble_eq_true rfl, Nat.le_of_ble_eq_true rfl⟩, w14, w15⟩ (kPc.v hK (va_recv hK.1 hP (ci := 2) (q0 := 10) rfl rfl) (kcut hP [10, 11] rfl)) rfl rfl hl.1 rfl (lv_room (Nat.le_of_ble_eq_true rfl)) dX6_day_173 ⟨Nat.zero_le _, Nat.zero_le _⟩) (fun r13 hr13 => ?_)
    subst hr13
    refine kz_icmp_lt (tgt := 183) hx hb dX6_day_176 (by decide) (by omega) (by omega) (fun c176 => ?_) (fun c176 => ?_)
    · refine lv_iconst (v := iz (0)) hx hb dX6_day_183 (by decide) ?_
      exact W.iret hx hb hr (fun t ht hW => ⟨⟨_, (zmix 24 (dy_dn Z) F1, zmix 24 (dy_pu Z) F2, zmix 24 (dy_lo Z) F3, zmix 24 (dy_sp Z) F4, zmix 24 (dy_le Z) F5, zmix 24 (dy_mo Z) F6, zmix 24 (dy_tr Z) F7, zmix 24 (dy_ca Z) F8), rfl, (congrArg iz (by rw [hs8]; show _ = (if Z 8 ≤ dy_le Z 23 then 1 else 0); rw [if_neg (by omega)])), by show va_P _ _ _ t.heap; rw [ht]; exact hP⟩, hS.F ht⟩) hS.2.2 dX6_day_184
    · refine lv_iconst (v := iz (1)) hx hb dX6_day_179 (by decide) ?_
      refine lv_goto (tgt := 184) hx hb dX6_day_180 (by decide) ?_
      exact W.iret hx hb hr (fun t ht hW => ⟨⟨_, (zmix 24 (dy_dn Z) F1, zmix 24 (dy_pu Z) F2, zmix 24 (dy_lo Z) F3, zmix 24 (dy_sp Z) F4, zmix 24 (dy_le Z) F5, zmix 24 (dy_mo Z) F6, zmix 24 (dy_tr Z) F7, zmix 24 (dy_ca Z) F8), rfl, (congrArg iz (by rw [hs8]; show _ = (if Z 8 ≤ dy_le Z 23 then 1 else 0); rw [if_pos (by omega)])), by show va_P _ _ _ t.heap; rw [ht]; exact hP⟩, hS.F ht⟩) hS.2.2 dX6_day_184
  · refine kz_tableIn (v := 10) (tgt := 185) (off := 177) hx hb dX6_day_8 hs8 (by decide) rfl (by decide) ?_
    refine lv_aload_n hx hb dX6_day_185 rfl (lv_at hl 0 rfl) ?_
    refine va_get (D := D) (ci := 6) (C := RX6) (T := TX6) (N := 8) hx hb hts w1 hown hK.1 hP 0 rfl rfl 0 (by decide) w12 (fun _ h9 => h9) rfl dX6_day_186 ?_
    refine kc_i (va_runVN (As := []) (rest := []) ⟨hx, hb, hml, hown, hts⟩ (c_X2_allInflows l D T h0 h1 Z ve) ⟨va_cnB 0 hts gX6_day_X2_allInflows_n165 rfl rfl rfl (kn_RX6_165 hK) w13 (by decide +kernel) ⟨Nat.le_of_ble_eq_true rfl, Nat.le_of_ble_eq_true rfl⟩, w16, w17⟩ (kPc.v hK (va_recv hK.1 hP (ci := 2) (q0 := 10) rfl rfl) (kcut hP [10, 11] rfl)) rfl rfl hl.1 rfl (lv_room (Nat.le_of_ble_eq_true rfl)) dX6_day_189 ⟨Nat.zero_le _, Nat.zero_le _⟩) (fun r14 hr14 => ?_)
    subst hr14
    exact W.iret hx hb hr (fun t ht hW => ⟨⟨_, (zmix 24 (dy_dn Z) F1, zmix 24 (dy_pu Z) F2, zmix 24 (dy_lo Z) F3, zmix 24 (dy_sp Z) F4, zmix 24 (dy_le Z) F5, zmix 24 (dy_mo Z) F6, zmix 24 (dy_tr Z) F7, zmix 24 (dy_ca Z) F8), rfl, (congrArg iz (by rw [hs8]; rfl)), by show va_P _ _ _ t.heap; rw [ht]; exact hP⟩, hS.F ht⟩) hS.2.2 dX6_day_192
  · refine kz_tableOut (tgt := 193) hx hb dX6_day_8 (by omega) hs8 (by decide) ?_
    refine lv_bipush (v := iz (-2)) hx hb dX6_day_193 (by decide) ?_
    exact W.iret hx hb hr (fun t ht hW => ⟨⟨_, (zmix 24 (dy_dn Z) F1, zmix 24 (dy_pu Z) F2, zmix 24 (dy_lo Z) F3, zmix 24 (dy_sp Z) F4, zmix 24 (dy_le Z) F5, zmix 24 (dy_mo Z) F6, zmix 24 (dy_tr Z) F7, zmix 24 (dy_ca Z) F8), rfl, (congrArg iz (pl_day_out hs8).symm), by show va_P _ _ _ t.heap; rw [ht]; exact hP⟩, hS.F ht⟩) hS.2.2 dX6_day_195
set_option maxHeartbeats 4000000 in
set_option maxRecDepth 100000 in
theorem c_X6_troubled (l : Launch) (D : va_G) (T : Nat → ClassId) (sz : Nat) (px : Nat) (hc : Nat) (so : Nat) (hp : Nat) (ho : Nat) (sl : Nat) (fl : Nat) (hh : Nat) (a1 : Nat) (a2 : Nat) (a3 : Nat) (a4 : Nat) (a5 : Nat) (a6 : Nat) (a7 : Nat) (a8 : Nat) (F1 : Nat → Int) (F2 : Nat → Int) (F3 : Nat → Int) (F4 : Nat → Int) (F5 : Nat → Int) (F6 : Nat → Int) (F7 : Nat → Int) (F8 : Nat → Int) (h0 : Nat) (h1 : Nat) (Z : Nat → Int) (ve : Int) (a : Int) (hia : -2147483648 ≤ a ∧ a < 2147483648) (hV : VL Z) : Met l yX6_troubled wsX6_troubled ({ frames := 5, cells := 0, slots := 0, locals := 122 }) (kPc D T [.ref px, .int (iz (a))] (kW D sz [(px, .inr (6, [.ref h0, .ref hc, .ref so, .ref hp, .ref ho, .ref hh, .ref sl, .ref fl])), (hc, .inr (0, [.ref h0, .ref a1, .ref a2, .ref a3, .ref a4, .ref a5, .ref a6, .ref a7, .ref a8])), (a1, .inl (T 0, 24, .inl (zA F1))), (a2, .inl (T 0, 24, .inl (zA F2))), (a3, .inl (T 0, 24, .inl (zA F3))), (a4, .inl (T 0, 24, .inl (zA F4))), (a5, .inl (T 0, 24, .inl (zA F5))), (a6, .inl (T 0, 24, .inl (zA F6))), (a7, .inl (T 0, 24, .inl (zA F7))), (a8, .inl (T 0, 24, .inl (zA F8))), (h0, .inr (2, [.ref h1, .int (iz (ve))])), (h1, .inl (T 0, 115, .inl (zA Z)))])) (va_Qi (fun (r : Int32) (u : (Nat → Int) × (Nat → Int) × (Nat → Int) × (Nat → Int) × (Nat → Int) × (Nat → Int) × (Nat → Int) × (Nat → Int)) => r = iz (pl_trb Z a)) (fun (u : (Nat → Int) × (Nat → Int) × (Nat → Int) × (Nat → Int) × (Nat → Int) × (Nat → Int) × (Nat → Int) × (Nat → Int)) (t : State) => va_P D vwCl [(px, .inr (6, [.ref h0, .ref hc, .ref so, .ref hp, .ref ho, .ref hh, .ref sl, .ref fl])), (hc, .inr (0, [.ref h0, .ref a1, .ref a2, .ref a3, .ref a4, .ref a5, .ref a6, .ref a7, .ref a8])), (a1, .inl (T 0, 24, .inl (zA u.1))), (a2, .inl (T 0, 24, .inl (zA u.2.1))), (a3, .inl (T 0, 24, .inl (zA u.2.2.1))), (a4, .inl (T 0, 24, .inl (zA u.2.2.2.1))), (a5, .inl (T 0, 24, .inl (zA u.2.2.2.2.1))), (a6, .inl (T 0, 24, .inl (zA u.2.2.2.2.2.1))), (a7, .inl (T 0, 24, .inl (zA u.2.2.2.2.2.2.1))), (a8, .inl (T 0, 24, .inl (zA u.2.2.2.2.2.2.2))), (h0, .inr (2, [.ref h1, .int (iz (ve))])), (h1, .inl (T 0, 115, .inl (zA Z)))] t.heap) (va_A [(px, .inr (6, [.ref h0, .ref hc, .ref so, .ref hp, .ref ho, .ref hh, .ref sl, .ref fl])), (hc, .inr (0, [.ref h0, .ref a1, .ref a2, .ref a3, .ref a4, .ref a5, .ref a6, .ref a7, .ref a8])), (a1, .inl (T 0, 24, .inl (zA F1))), (a2, .inl (T 0, 24, .inl (zA F2))), (a3, .inl (T 0, 24, .inl (zA F3))), (a4, .inl (T 0, 24, .inl (zA F4))), (a5, .inl (T 0, 24, .inl (zA F5))), (a6, .inl (T 0, 24, .inl (zA F6))), (a7, .inl (T 0, 24, .inl (zA F7))), (a8, .inl (T 0, 24, .inl (zA F8))), (h0, .inr (2, [.ref h1, .int (iz (ve))])), (h1, .inl (T 0, 115, .inl (zA Z)))] sz)) 0 0 (va_A [(px, .inr (6, [.ref h0, .ref hc, .ref so, .ref hp, .ref ho, .ref hh, .ref sl, .ref fl])), (hc, .inr (0, [.ref h0, .ref a1, .ref a2, .ref a3, .ref a4, .ref a5, .ref a6, .ref a7, .ref a8])), (a1, .inl (T 0, 24, .inl (zA F1))), (a2, .inl (T 0, 24, .inl (zA F2))), (a3, .inl (T 0, 24, .inl (zA F3))), (a4, .inl (T 0, 24, .inl (zA F4))), (a5, .inl (T 0, 24, .inl (zA F5))), (a6, .inl (T 0, 24, .inl (zA F6))), (a7, .inl (T 0, 24, .inl (zA F7))), (a8, .inl (T 0, 24, .inl (zA F8))), (h0, .inr (2, [.ref h1, .int (iz (ve))])), (h1, .inl (T 0, 115, .inl (zA Z)))] sz) := by
  refine Met.ofW (cc := cX6_troubled) (maxL := 2) (ret := (some .int)) (by decide) rfl ?_
  intro p e s m args below meth c s₁ B hml hv
  obtain ⟨rfl, hK, hsz, hP, hD0⟩ := hv
  have hx := B.exec
  have hb := B.bytes
  have hr := B.returns
  have hts := atoms_spec (ws := wsX6_troubled) B.pre
  have hown : s.vm.findClass RX6 = some m.cls := findClass_of_methodNamed B.named
  have hlocks := B.notSynchronized
  have w0 := hts (.fieldLink RX6 21 "LakePlant" "course" "LLakePlant$Course;") (List.mem_of_getElem? (i := 1) rfl)
  have w1 : ∀ w ∈ wsX60, w ∈ wsX6_troubled := by decide +kernel
  have w2 := hts (.initialized RX0) (List.mem_of_getElem? (i := 3) rfl)
  have w3 := hts (.instanceMethod yX0_follow) (List.mem_of_getElem? (i := 2) rfl)
  have w4 := hts (.selects RX0 yX0_follow yX0_follow) (List.mem_of_getElem? (i := 4) rfl)
  have w5 := hts (.instanceMethod yX0_setOf) (List.mem_of_getElem? (i := 81) rfl)
  have w6 := hts (.selects RX0 yX0_setOf yX0_setOf) (List.mem_of_getElem? (i := 82) rfl)
  subst hsz
  have hD := hD0.self (sz := s.heap.size)
  generalize hAe : va_A [(px, .inr (6, [.ref h0, .ref hc, .ref so, .ref hp, .ref ho, .ref hh, .ref sl, .ref fl])), (hc, .inr (0, [.ref h0, .ref a1, .ref a2, .ref a3, .ref a4, .ref a5, .ref a6, .ref a7, .ref a8])), (a1, .inl (T 0, 24, .inl (zA F1))), (a2, .inl (T 0, 24, .inl (zA F2))), (a3, .inl (T 0, 24, .inl (zA F3))), (a4, .inl (T 0, 24, .inl (zA F4))), (a5, .inl (T 0, 24, .inl (zA F5))), (a6, .inl (T 0, 24, .inl (zA F6))), (a7, .inl (T 0, 24, .inl (zA F7))), (a8, .inl (T 0, 24, .inl (zA F8))), (h0, .inr (2, [.ref h1, .int (iz (ve))])), (h1, .inl (T 0, 115, .inl (zA Z)))] s.heap.size = A at hD ⊢
  have hA : ∀ q : Nat, s.heap.size ≤ q → A q := fun q h => by rw [← hAe]; exact Or.inr h
  have hS : va_S A s.heap s.heap [] := va_S.rf
  have hP : va_P D vwCl [(px, .inr (6, [.ref h0, .ref hc, .ref so, .ref hp, .ref ho, .ref hh, .ref sl, .ref fl])), (hc, .inr (0, [.ref h0, .ref a1, .ref a2, .ref a3, .ref a4, .ref a5, .ref a6, .ref a7, .ref a8])), (a1, .inl (T 0, 24, .inl (zA F1))), (a2, .inl (T 0, 24, .inl (zA F2))), (a3, .inl (T 0, 24, .inl (zA F3))), (a4, .inl (T 0, 24, .inl (zA F4))), (a5, .inl (T 0, 24, .inl (zA F5))), (a6, .inl (T 0, 24, .inl (zA F6))), (a7, .inl (T 0, 24, .inl (zA F7))), (a8, .inl (T 0, 24, .inl (zA F8))), (h0, .inr (2, [.ref h1, .int (iz (ve))])), (h1, .inl (T 0, 115, .inl (zA Z)))] s.heap := hP
  have hl := lv_entry ([.ref px, .int (iz (a))]) (n := 2) (Nat.le_of_ble_eq_true rfl)
  rw [lg_entry_eq]
  generalize (lg_sl ([.ref px, .int (iz (a))]) ++ List.replicate (2 - (lg_sl ([.ref px, .int (iz (a))])).length) Slot.unset).toArray = ls at hl ⊢
  have hl : lv_has ls 2 [(0, .ref px), (1, .int (iz (a)))] := hl
  refine lv_iload_n hx hb dX6_troubled_0 rfl (lv_at hl 1 rfl) ?_
  refine lv_iconst (v := iz (1)) hx hb dX6_troubled_1 (by decide) ?_
  refine kz_icmp_lt (tgt := 10) hx hb dX6_troubled_2 (by decide) (by omega) (by omega) (fun c2 => ?_) (fun c2 => ?_)
  · refine lv_bipush (v := iz (-2)) hx hb dX6_troubled_10 (by decide) ?_
    exact W.iret hx hb hr (fun t ht hW => ⟨⟨_, (F1, F2, F3, F4, F5, F6, F7, F8), rfl, (congrArg iz (by unfold pl_trb; rw [if_neg (by omega)])), by show va_P _ _ _ t.heap; rw [ht]; exact hP⟩, hS.F ht⟩) hS.2.2 dX6_troubled_12
  · refine lv_iload_n hx hb dX6_troubled_5 rfl (lv_at hl 1 rfl) ?_
    refine lv_iconst (v := iz (4)) hx hb dX6_troubled_6 (by decide) ?_
    refine kz_icmp_le (tgt := 13) hx hb dX6_troubled_7 (by decide) (by omega) (by omega) (fun c7 => ?_) (fun c7 => ?_)
    · refine lv_aload_n hx hb dX6_troubled_13 rfl (lv_at hl 0 rfl) ?_
      refine va_get (D := D) (ci := 6) (C := RX6) (T := TX6) (N := 8) hx hb hts w1 hown hK.1 hP 0 rfl rfl 1 (by decide) w0 (fun _ h9 => h9) rfl dX6_troubled_14 ?_
      refine kc_wv (va_runVN (As := []) (rest := []) ⟨hx, hb, hml, hown, hts⟩ (c_X0_follow l D T s.heap.size hc a1 a2 a3 a4 a5 a6 a7 a8 F1 F2 F3 F4 F5 F6 F7 F8 h0 h1 Z ve hV) ⟨va_cnB 0 hts gX6_troubled_X0_follow_n99 rfl rfl rfl (kn_RX6_99 hK) w2 (by decide +kernel) ⟨Nat.le_of_ble_eq_true rfl, Nat.le_of_ble_eq_true rfl⟩, w3, w4⟩ (kPc.v hK (va_recv hK.1 hP (ci := 0) (q0 := 1) rfl rfl) (kW.cut hP hD [1, 2, 3, 4, 5, 6, 7, 8, 9, 10, 11] rfl (by rfl))) rfl rfl hl.1 rfl (lv_room (Nat.le_of_ble_eq_true rfl)) dX6_troubled_17 ⟨Nat.zero_le _, Nat.zero_le _⟩) hP hD hS hA [1, 2, 3, 4, 5, 6, 7, 8, 9, 10, 11] rfl (fun _ => rfl) (fun u H locs hr1 hP hD hS => ?_)
      have hP : va_P D vwCl [(px, .inr (6, [.ref h0, .ref hc, .ref so, .ref hp, .ref ho, .ref hh, .ref sl, .ref fl])), (hc, .inr (0, [.ref h0, .ref a1, .ref a2, .ref a3, .ref a4, .ref a5, .ref a6, .ref a7, .ref a8])), (a1, .inl (T 0, 24, .inl (zA (zmix 24 (dy_dn Z) F1)))), (a2, .inl (T 0, 24, .inl (zA (zmix 24 (dy_pu Z) F2)))), (a3, .inl (T 0, 24, .inl (zA (zmix 24 (dy_lo Z) F3)))), (a4, .inl (T 0, 24, .inl (zA (zmix 24 (dy_sp Z) F4)))), (a5, .inl (T 0, 24, .inl (zA (zmix 24 (dy_le Z) F5)))), (a6, .inl (T 0, 24, .inl (zA (zmix 24 (dy_mo Z) F6)))), (a7, .inl (T 0, 24, .inl (zA (zmix 24 (dy_tr Z) F7)))), (a8, .inl (T 0, 24, .inl (zA (zmix 24 (dy_ca Z) F8)))), (h0, .inr (2, [.ref h1, .int (iz (ve))])), (h1, .inl (T 0, 115, .inl (zA Z)))] H := hP
      have hD : va_D A [(px, .inr (6, [.ref h0, .ref hc, .ref so, .ref hp, .ref ho, .ref hh, .ref sl, .ref fl])), (hc, .inr (0, [.ref h0, .ref a1, .ref a2, .ref a3, .ref a4, .ref a5, .ref a6, .ref a7, .ref a8])), (a1, .inl (T 0, 24, .inl (zA (zmix 24 (dy_dn Z) F1)))), (a2, .inl (T 0, 24, .inl (zA (zmix 24 (dy_pu Z) F2)))), (a3, .inl (T 0, 24, .inl (zA (zmix 24 (dy_lo Z) F3)))), (a4, .inl (T 0, 24, .inl (zA (zmix 24 (dy_sp Z) F4)))), (a5, .inl (T 0, 24, .inl (zA (zmix 24 (dy_le Z) F5)))), (a6, .inl (T 0, 24, .inl (zA (zmix 24 (dy_mo Z) F6)))), (a7, .inl (T 0, 24, .inl (zA (zmix 24 (dy_tr Z) F7)))), (a8, .inl (T 0, 24, .inl (zA (zmix 24 (dy_ca Z) F8)))), (h0, .inr (2, [.ref h1, .int (iz (ve))])), (h1, .inl (T 0, 115, .inl (zA Z)))] := hD
      refine lv_aload_n hx hb dX6_troubled_20 rfl (lv_at hl 0 rfl) ?_
      refine va_get (D := D) (ci := 6) (C := RX6) (T := TX6) (N := 8) hx hb hts w1 hown hK.1 hP 0 rfl rfl 1 (by decide) w0 (fun _ h9 => h9) rfl dX6_troubled_21 ?_
      refine lv_iload_n hx hb dX6_troubled_24 rfl (lv_at hl 1 rfl) ?_
      refine kc_i (va_runVN (As := [.int (iz (a))]) (rest := []) ⟨hx, hb, hml, hown, hts⟩ (c_X0_setOf l D T hc a1 a2 a3 a4 a5 a6 a7 a8 h0 (zmix 24 (dy_tr Z) F7) (fun r hr => by rw [zmix_in hr]; have := (dy_rng hV hr).2.2.2.1; omega) a (by omega)) ⟨va_cnB 1 hts gX6_troubled_X0_setOf_n168 rfl rfl rfl (kn_RX6_168 hK) w2 (by decide +kernel) ⟨Nat.le_of_ble_eq_true rfl, Nat.le_of_ble_eq_true rfl⟩, w5, w6⟩ (kPc.v hK (va_recv hK.1 hP (ci := 0) (q0 := 1) rfl rfl) (kcut hP [1, 8] rfl)) rfl rfl hl.1 rfl (lv_room (Nat.le_of_ble_eq_true rfl)) dX6_troubled_25 ⟨Nat.zero_le _, Nat.zero_le _⟩) (fun r2 hr2 => ?_)
      subst hr2
      exact W.iret hx hb hr (fun t ht hW => ⟨⟨_, (zmix 24 (dy_dn Z) F1, zmix 24 (dy_pu Z) F2, zmix 24 (dy_lo Z) F3, zmix 24 (dy_sp Z) F4, zmix 24 (dy_le Z) F5, zmix 24 (dy_mo Z) F6, zmix 24 (dy_tr Z) F7, zmix 24 (dy_ca Z) F8), rfl, (congrArg iz (by unfold pl_trb; rw [if_pos (by omega), sb_mix])), by show va_P _ _ _ t.heap; rw [ht]; exact hP⟩, hS.F ht⟩) hS.2.2 dX6_troubled_28
    · refine lv_bipush (v := iz (-2)) hx hb dX6_troubled_10 (by decide) ?_
      exact W.iret hx hb hr (fun t ht hW => ⟨⟨_, (F1, F2, F3, F4, F5, F6, F7, F8), rfl, (congrArg iz (by unfold pl_trb; rw [if_neg (by omega)])), by show va_P _ _ _ t.heap; rw [ht]; exact hP⟩, hS.F ht⟩) hS.2.2 dX6_troubled_12
