set_option maxHeartbeats 4000000 in
set_option maxRecDepth 100000 in
theorem c_X6_set (l : Launch) (D : va_G) (T : Nat → ClassId) (sz : Nat) (mv : Nat) (px : Nat) (hc : Nat) (so : Nat) (hp : Nat) (ho : Nat) (sl : Nat) (fl : Nat) (hh : Nat) (st : Nat) (asd : Int) (len : Int) (rw : Nat → Nat) (G : Nat → Nat → Int) (h0 : Nat) (h1 : Nat) (Z : Nat → Int) (ve : Int) (a : Int) (b : Int) (hia : -2147483648 ≤ a ∧ a < 2147483648) (hib : -2147483648 ≤ b ∧ b < 2147483648) (hV : VL Z) (ha0 : 0 ≤ asd ∧ asd < 7) (hlen : 0 ≤ len ∧ len ≤ 6) : Met l yX6_set wsX6_set ({ frames := 4, cells := 0, slots := 0, locals := 123 }) (kPcM D T [.ref px, .int (iz (a)), .int (iz (b))] "MOST_VALUES" mvF mv (va_A ([(px, .inr (6, [.ref h0, .ref hc, .ref so, .ref hp, .ref ho, .ref hh, .ref sl, .ref fl])), (hh, .inr (1, [.ref st, .int (iz (asd)), .int (iz (len))])), (st, .inl (T 1, 7, .inr (.inr (.inr (.inr (fun i => some (rw i))))))), (h0, .inr (2, [.ref h1, .int (iz (ve))])), (h1, .inl (T 0, 115, .inl (zA Z)))] ++ kRows T rw 7 115 G) sz) (kW D sz ([(px, .inr (6, [.ref h0, .ref hc, .ref so, .ref hp, .ref ho, .ref hh, .ref sl, .ref fl])), (hh, .inr (1, [.ref st, .int (iz (asd)), .int (iz (len))])), (st, .inl (T 1, 7, .inr (.inr (.inr (.inr (fun i => some (rw i))))))), (h0, .inr (2, [.ref h1, .int (iz (ve))])), (h1, .inl (T 0, 115, .inl (zA Z)))] ++ kRows T rw 7 115 G))) (va_Qi (fun (r : Int32) (u : Unit) => r = iz (lk_rSet Z a b)) (fun (u : Unit) (t : State) => va_P D vwCl ([(px, .inr (6, [.ref h0, .ref hc, .ref so, .ref hp, .ref ho, .ref hh, .ref sl, .ref fl])), (hh, .inr (1, [.ref st, .int (iz (if lk_rSet Z a b < 0 then asd else (asd + 1) % 7)), .int (iz (if lk_rSet Z a b < 0 then len else min (len + 1) 6))])), (st, .inl (T 1, 7, .inr (.inr (.inr (.inr (fun i => some (rw i))))))), (h0, .inr (2, [.ref h1, .int (iz (lk_vSet Z a b ve))])), (h1, .inl (T 0, 115, .inl (zA (lk_zSet Z a b))))] ++ kRows T rw 7 115 (gup G asd.toNat (zmix 115 Z (G asd.toNat)))) t.heap) (va_A ([(px, .inr (6, [.ref h0, .ref hc, .ref so, .ref hp, .ref ho, .ref hh, .ref sl, .ref fl])), (hh, .inr (1, [.ref st, .int (iz (asd)), .int (iz (len))])), (st, .inl (T 1, 7, .inr (.inr (.inr (.inr (fun i => some (rw i))))))), (h0, .inr (2, [.ref h1, .int (iz (ve))])), (h1, .inl (T 0, 115, .inl (zA Z)))] ++ kRows T rw 7 115 G) sz)) 0 0 (va_A ([(px, .inr (6, [.ref h0, .ref hc, .ref so, .ref hp, .ref ho, .ref hh, .ref sl, .ref fl])), (hh, .inr (1, [.ref st, .int (iz (asd)), .int (iz (len))])), (st, .inl (T 1, 7, .inr (.inr (.inr (.inr (fun i => some (rw i))))))), (h0, .inr (2, [.ref h1, .int (iz (ve))])), (h1, .inl (T 0, 115, .inl (zA Z)))] ++ kRows T rw 7 115 G) sz) := by
  refine Met.ofW (cc := cX6_set) (maxL := 3) (ret := (some .int)) (by decide) rfl ?_
  intro p e s m args below meth c s₁ B hml hv
  obtain ⟨rfl, hK, hM, hsz, hP, hD0⟩ := hv
  have hx := B.exec
  have hb := B.bytes
  have hr := B.returns
  have hts := atoms_spec (ws := wsX6_set) B.pre
  have hown : s.vm.findClass RX6 = some m.cls := findClass_of_methodNamed B.named
  have hlocks := B.notSynchronized
  have w0 := hts (.fieldLink RX6 51 "LakePlant" "history" "LLakePlant$History;") (List.mem_of_getElem? (i := 1) rfl)
  have w1 : ∀ w ∈ wsX60, w ∈ wsX6_set := by decide +kernel
  have w2 := hts (.fieldLink RX6 10 "LakePlant" "lake" "LLakePlant$Lake;") (List.mem_of_getElem? (i := 2) rfl)
  have w3 := hts (.initialized RX1) (List.mem_of_getElem? (i := 4) rfl)
  have w4 := hts (.instanceMethod yX1_keepAside) (List.mem_of_getElem? (i := 3) rfl)
  have w5 := hts (.selects RX1 yX1_keepAside yX1_keepAside) (List.mem_of_getElem? (i := 5) rfl)
  have w6 := hts (.initialized RX2) (List.mem_of_getElem? (i := 10) rfl)
  have w7 := hts (.instanceMethod yX2_changeSetting) (List.mem_of_getElem? (i := 25) rfl)
  have w8 := hts (.selects RX2 yX2_changeSetting yX2_changeSetting) (List.mem_of_getElem? (i := 26) rfl)
  have w9 := hts (.instanceMethod yX1_recordUnlessError) (List.mem_of_getElem? (i := 46) rfl)
  have w10 := hts (.selects RX1 yX1_recordUnlessError yX1_recordUnlessError) (List.mem_of_getElem? (i := 47) rfl)
  subst hsz
  have hD := hD0.self (sz := s.heap.size)
  generalize hAe : va_A ([(px, .inr (6, [.ref h0, .ref hc, .ref so, .ref hp, .ref ho, .ref hh, .ref sl, .ref fl])), (hh, .inr (1, [.ref st, .int (iz (asd)), .int (iz (len))])), (st, .inl (T 1, 7, .inr (.inr (.inr (.inr (fun i => some (rw i))))))), (h0, .inr (2, [.ref h1, .int (iz (ve))])), (h1, .inl (T 0, 115, .inl (zA Z)))] ++ kRows T rw 7 115 G) s.heap.size = A at hD hM ⊢
  have hA : ∀ q : Nat, s.heap.size ≤ q → A q := fun q h => by rw [← hAe]; exact Or.inr h
  have hS : va_S A s.heap s.heap [] := va_S.rf
  have hP : va_P D vwCl ([(px, .inr (6, [.ref h0, .ref hc, .ref so, .ref hp, .ref ho, .ref hh, .ref sl, .ref fl])), (hh, .inr (1, [.ref st, .int (iz (asd)), .int (iz (len))])), (st, .inl (T 1, 7, .inr (.inr (.inr (.inr (fun i => some (rw i))))))), (h0, .inr (2, [.ref h1, .int (iz (ve))])), (h1, .inl (T 0, 115, .inl (zA Z)))] ++ kRows T rw 7 115 G) s.heap := hP
  have hl := lv_entry ([.ref px, .int (iz (a)), .int (iz (b))]) (n := 3) (Nat.le_of_ble_eq_true rfl)
  rw [lg_entry_eq]
  generalize (lg_sl ([.ref px, .int (iz (a)), .int (iz (b))]) ++ List.replicate (3 - (lg_sl ([.ref px, .int (iz (a)), .int (iz (b))])).length) Slot.unset).toArray = ls at hl ⊢
  have hl : lv_has ls 3 [(0, .ref px), (1, .int (iz (a))), (2, .int (iz (b)))] := hl
  have hrr := lk_rSet_rng hV a b
  refine lv_aload_n hx hb dX6_set_0 rfl (lv_at hl 0 rfl) ?_
  refine va_get (D := D) (ci := 6) (C := RX6) (T := TX6) (N := 8) hx hb hts w1 hown hK.1 hP 0 rfl rfl 5 (by decide) w0 (fun _ h9 => h9) rfl dX6_set_1 ?_
  refine lv_aload_n hx hb dX6_set_4 rfl (lv_at hl 0 rfl) ?_
  refine va_get (D := D) (ci := 6) (C := RX6) (T := TX6) (N := 8) hx hb hts w1 hown hK.1 hP 0 rfl rfl 0 (by decide) w2 (fun _ h9 => h9) rfl dX6_set_5 ?_
  refine kc_wvP (va_runVN (As := [.ref h0]) (rest := []) ⟨hx, hb, hml, hown, hts⟩ (c_X1_keepAside l D T s.heap.size hh st asd len rw G h0 h1 Z ve (by omega)) ⟨va_cnB 1 hts gX6_set_X1_keepAside_n64 rfl rfl rfl (kn_RX6_64 hK) w3 (by decide +kernel) ⟨Nat.le_of_ble_eq_true rfl, Nat.le_of_ble_eq_true rfl⟩, w4, w5⟩ (kPc.v hK (va_recv hK.1 hP (ci := 1) (q0 := 1) rfl rfl) (kW.cutP hP hD [1, 2, 3, 4] rfl (by rfl))) rfl rfl hl.1 rfl (lv_room (Nat.le_of_ble_eq_true rfl)) dX6_set_8 ⟨Nat.zero_le _, Nat.zero_le _⟩) hP hD hS hA [1, 2, 3, 4] rfl (fun _ => rfl) (fun _ => kRows_fst) (fun u H locs hr1 hP hD hS => ?_)
  have hP : va_P D vwCl ([(px, .inr (6, [.ref h0, .ref hc, .ref so, .ref hp, .ref ho, .ref hh, .ref sl, .ref fl])), (hh, .inr (1, [.ref st, .int (iz (asd)), .int (iz (len))])), (st, .inl (T 1, 7, .inr (.inr (.inr (.inr (fun i => some (rw i))))))), (h0, .inr (2, [.ref h1, .int (iz (ve))])), (h1, .inl (T 0, 115, .inl (zA Z)))] ++ kRows T rw 7 115 (gup G asd.toNat (zmix 115 Z (G asd.toNat)))) H := hP
  have hD : va_D A ([(px, .inr (6, [.ref h0, .ref hc, .ref so, .ref hp, .ref ho, .ref hh, .ref sl, .ref fl])), (hh, .inr (1, [.ref st, .int (iz (asd)), .int (iz (len))])), (st, .inl (T 1, 7, .inr (.inr (.inr (.inr (fun i => some (rw i))))))), (h0, .inr (2, [.ref h1, .int (iz (ve))])), (h1, .inl (T 0, 115, .inl (zA Z)))] ++ kRows T rw 7 115 (gup G asd.toNat (zmix 115 Z (G asd.toNat)))) := hD
  refine lv_aload_n hx hb dX6_set_11 rfl (lv_at hl 0 rfl) ?_
  refine va_get (D := D) (ci := 6) (C := RX6) (T := TX6) (N := 8) hx hb hts w1 hown hK.1 hP 0 rfl rfl 5 (by decide) w0 (fun _ h9 => h9) rfl dX6_set_12 ?_
  refine lv_aload_n hx hb dX6_set_15 rfl (lv_at hl 0 rfl) ?_
  refine va_get (D := D) (ci := 6) (C := RX6) (T := TX6) (N := 8) hx hb hts w1 hown hK.1 hP 0 rfl rfl 0 (by decide) w2 (fun _ h9 => h9) rfl dX6_set_16 ?_
  refine lv_iload_n hx hb dX6_set_19 rfl (lv_at hl 1 rfl) ?_
  refine lv_iload_n hx hb dX6_set_20 rfl (lv_at hl 2 rfl) ?_
  refine kc_wi (va_runVN (As := [.int (iz (a)), .int (iz (b))]) (rest := [.ref hh]) ⟨hx, hb, hml, hown, hts⟩ (c_X2_changeSetting l D T H.size h0 h1 Z ve mv a b (by omega) (by omega) hV) ⟨va_cnB 2 hts gX6_set_X2_changeSetting_n67 rfl rfl rfl (kn_RX6_67 hK) w6 (by decide +kernel) ⟨Nat.le_of_ble_eq_true rfl, Nat.le_of_ble_eq_true rfl⟩, w7, w8⟩ (kPcM.v hK (va_recv hK.1 hP (ci := 2) (q0 := 3) rfl rfl) (hM.call hS (va_free hD hS hA [3, 4] rfl)) (kW.cut hP hD [3, 4] rfl (by rfl))) rfl rfl hl.1 rfl (lv_room (Nat.le_of_ble_eq_true rfl)) dX6_set_21 ⟨Nat.zero_le _, Nat.zero_le _⟩) hP hD hS hA [3, 4] rfl (fun _ => rfl) (fun r2 u H locs hr2 hP hD hS => ?_)
  have hP : va_P D vwCl ([(px, .inr (6, [.ref h0, .ref hc, .ref so, .ref hp, .ref ho, .ref hh, .ref sl, .ref fl])), (hh, .inr (1, [.ref st, .int (iz (asd)), .int (iz (len))])), (st, .inl (T 1, 7, .inr (.inr (.inr (.inr (fun i => some (rw i))))))), (h0, .inr (2, [.ref h1, .int (iz (lk_vSet Z a b ve))])), (h1, .inl (T 0, 115, .inl (zA (lk_zSet Z a b))))] ++ kRows T rw 7 115 (gup G asd.toNat (zmix 115 Z (G asd.toNat)))) H := hP
  have hD : va_D A ([(px, .inr (6, [.ref h0, .ref hc, .ref so, .ref hp, .ref ho, .ref hh, .ref sl, .ref fl])), (hh, .inr (1, [.ref st, .int (iz (asd)), .int (iz (len))])), (st, .inl (T 1, 7, .inr (.inr (.inr (.inr (fun i => some (rw i))))))), (h0, .inr (2, [.ref h1, .int (iz (lk_vSet Z a b ve))])), (h1, .inl (T 0, 115, .inl (zA (lk_zSet Z a b))))] ++ kRows T rw 7 115 (gup G asd.toNat (zmix 115 Z (G asd.toNat)))) := hD
  subst hr2
  refine kc_wi (va_runVN (As := [.int (iz (lk_rSet Z a b))]) (rest := []) ⟨hx, hb, hml, hown, hts⟩ (c_X1_recordUnlessError l D T H.size hh st asd len (lk_rSet Z a b) (by omega) (by omega) (by omega)) ⟨va_cnB 1 hts gX6_set_X1_recordUnlessError_n71 rfl rfl rfl (kn_RX6_71 hK) w3 (by decide +kernel) ⟨Nat.le_of_ble_eq_true rfl, Nat.le_of_ble_eq_true rfl⟩, w9, w10⟩ (kPc.v hK (va_recv hK.1 hP (ci := 1) (q0 := 1) rfl rfl) (kW.cut hP hD [1] rfl (by rfl))) rfl rfl hl.1 rfl (lv_room (Nat.le_of_ble_eq_true rfl)) dX6_set_24 ⟨Nat.zero_le _, Nat.zero_le _⟩) hP hD hS hA [1] rfl (fun _ => rfl) (fun r3 u H locs hr3 hP hD hS => ?_)
  have hP : va_P D vwCl ([(px, .inr (6, [.ref h0, .ref hc, .ref so, .ref hp, .ref ho, .ref hh, .ref sl, .ref fl])), (hh, .inr (1, [.ref st, .int (iz (if (lk_rSet Z a b) < 0 then asd else (asd + 1) % 7)), .int (iz (if (lk_rSet Z a b) < 0 then len else min (len + 1) 6))])), (st, .inl (T 1, 7, .inr (.inr (.inr (.inr (fun i => some (rw i))))))), (h0, .inr (2, [.ref h1, .int (iz (lk_vSet Z a b ve))])), (h1, .inl (T 0, 115, .inl (zA (lk_zSet Z a b))))] ++ kRows T rw 7 115 (gup G asd.toNat (zmix 115 Z (G asd.toNat)))) H := hP
  have hD : va_D A ([(px, .inr (6, [.ref h0, .ref hc, .ref so, .ref hp, .ref ho, .ref hh, .ref sl, .ref fl])), (hh, .inr (1, [.ref st, .int (iz (if (lk_rSet Z a b) < 0 then asd else (asd + 1) % 7)), .int (iz (if (lk_rSet Z a b) < 0 then len else min (len + 1) 6))])), (st, .inl (T 1, 7, .inr (.inr (.inr (.inr (fun i => some (rw i))))))), (h0, .inr (2, [.ref h1, .int (iz (lk_vSet Z a b ve))])), (h1, .inl (T 0, 115, .inl (zA (lk_zSet Z a b))))] ++ kRows T rw 7 115 (gup G asd.toNat (zmix 115 Z (G asd.toNat)))) := hD
  subst hr3
  have hZ : (if (lk_rSet Z a b) < 0 then asd else (asd + 1) % 7 : Int) = if lk_rSet Z a b < 0 then asd else (asd + 1) % 7 := (by first | rfl | omega)
  have hP : va_P D vwCl ([(px, .inr (6, [.ref h0, .ref hc, .ref so, .ref hp, .ref ho, .ref hh, .ref sl, .ref fl])), (hh, .inr (1, [.ref st, .int (iz (if lk_rSet Z a b < 0 then asd else (asd + 1) % 7)), .int (iz (if (lk_rSet Z a b) < 0 then len else min (len + 1) 6))])), (st, .inl (T 1, 7, .inr (.inr (.inr (.inr (fun i => some (rw i))))))), (h0, .inr (2, [.ref h1, .int (iz (lk_vSet Z a b ve))])), (h1, .inl (T 0, 115, .inl (zA (lk_zSet Z a b))))] ++ kRows T rw 7 115 (gup G asd.toNat (zmix 115 Z (G asd.toNat)))) H := by rw [← hZ]; exact hP
  have hD : va_D A ([(px, .inr (6, [.ref h0, .ref hc, .ref so, .ref hp, .ref ho, .ref hh, .ref sl, .ref fl])), (hh, .inr (1, [.ref st, .int (iz (if lk_rSet Z a b < 0 then asd else (asd + 1) % 7)), .int (iz (if (lk_rSet Z a b) < 0 then len else min (len + 1) 6))])), (st, .inl (T 1, 7, .inr (.inr (.inr (.inr (fun i => some (rw i))))))), (h0, .inr (2, [.ref h1, .int (iz (lk_vSet Z a b ve))])), (h1, .inl (T 0, 115, .inl (zA (lk_zSet Z a b))))] ++ kRows T rw 7 115 (gup G asd.toNat (zmix 115 Z (G asd.toNat)))) := by rw [← hZ]; exact hD
  have hZ : (if (lk_rSet Z a b) < 0 then len else min (len + 1) 6 : Int) = if lk_rSet Z a b < 0 then len else min (len + 1) 6 := (by first | rfl | omega)
  have hP : va_P D vwCl ([(px, .inr (6, [.ref h0, .ref hc, .ref so, .ref hp, .ref ho, .ref hh, .ref sl, .ref fl])), (hh, .inr (1, [.ref st, .int (iz (if lk_rSet Z a b < 0 then asd else (asd + 1) % 7)), .int (iz (if lk_rSet Z a b < 0 then len else min (len + 1) 6))])), (st, .inl (T 1, 7, .inr (.inr (.inr (.inr (fun i => some (rw i))))))), (h0, .inr (2, [.ref h1, .int (iz (lk_vSet Z a b ve))])), (h1, .inl (T 0, 115, .inl (zA (lk_zSet Z a b))))] ++ kRows T rw 7 115 (gup G asd.toNat (zmix 115 Z (G asd.toNat)))) H := by rw [← hZ]; exact hP
  have hD : va_D A ([(px, .inr (6, [.ref h0, .ref hc, .ref so, .ref hp, .ref ho, .ref hh, .ref sl, .ref fl])), (hh, .inr (1, [.ref st, .int (iz (if lk_rSet Z a b < 0 then asd else (asd + 1) % 7)), .int (iz (if lk_rSet Z a b < 0 then len else min (len + 1) 6))])), (st, .inl (T 1, 7, .inr (.inr (.inr (.inr (fun i => some (rw i))))))), (h0, .inr (2, [.ref h1, .int (iz (lk_vSet Z a b ve))])), (h1, .inl (T 0, 115, .inl (zA (lk_zSet Z a b))))] ++ kRows T rw 7 115 (gup G asd.toNat (zmix 115 Z (G asd.toNat)))) := by rw [← hZ]; exact hD
  exact W.iret hx hb hr (fun t ht hW => ⟨⟨_, (), rfl, rfl, by show va_P _ _ _ t.heap; rw [ht]; exact hP⟩, hS.F ht⟩) hS.2.2 dX6_set_27
set_option maxHeartbeats 4000000 in
set_option maxRecDepth 100000 in
theorem c_X6_undo (l : Launch) (D : va_G) (T : Nat → ClassId) (sz : Nat) (px : Nat) (hc : Nat) (so : Nat) (hp : Nat) (ho : Nat) (sl : Nat) (fl : Nat) (hh : Nat) (st : Nat) (asd : Int) (len : Int) (rw : Nat → Nat) (G : Nat → Nat → Int) (h0 : Nat) (h1 : Nat) (Z : Nat → Int) (ve : Int) (hV : VL Z) (ha0 : 0 ≤ asd ∧ asd < 7) (hlen : 0 ≤ len ∧ len ≤ 6) : Met l yX6_undo wsX6_undo ({ frames := 4, cells := 0, slots := 0, locals := 123 }) (kPc D T [.ref px] (kW D sz ([(px, .inr (6, [.ref h0, .ref hc, .ref so, .ref hp, .ref ho, .ref hh, .ref sl, .ref fl])), (hh, .inr (1, [.ref st, .int (iz (asd)), .int (iz (len))])), (st, .inl (T 1, 7, .inr (.inr (.inr (.inr (fun i => some (rw i))))))), (h0, .inr (2, [.ref h1, .int (iz (ve))])), (h1, .inl (T 0, 115, .inl (zA Z)))] ++ kRows T rw 7 115 G))) (va_Qi (fun (r : Int32) (u : Unit) => r = iz (if len = 0 then -5 else len - 1)) (fun (u : Unit) (t : State) => va_P D vwCl ([(px, .inr (6, [.ref h0, .ref hc, .ref so, .ref hp, .ref ho, .ref hh, .ref sl, .ref fl])), (hh, .inr (1, [.ref st, .int (iz (if len = 0 then asd else (asd + 6) % 7)), .int (iz (if len = 0 then len else len - 1))])), (st, .inl (T 1, 7, .inr (.inr (.inr (.inr (fun i => some (rw i))))))), (h0, .inr (2, [.ref h1, .int (iz (if len = 0 then ve else ve + 1))])), (h1, .inl (T 0, 115, .inl (zA (if len = 0 then Z else zmix 115 (G ((asd + 6) % 7).toNat) Z))))] ++ kRows T rw 7 115 G) t.heap) (va_A ([(px, .inr (6, [.ref h0, .ref hc, .ref so, .ref hp, .ref ho, .ref hh, .ref sl, .ref fl])), (hh, .inr (1, [.ref st, .int (iz (asd)), .int (iz (len))])), (st, .inl (T 1, 7, .inr (.inr (.inr (.inr (fun i => some (rw i))))))), (h0, .inr (2, [.ref h1, .int (iz (ve))])), (h1, .inl (T 0, 115, .inl (zA Z)))] ++ kRows T rw 7 115 G) sz)) 0 0 (va_A ([(px, .inr (6, [.ref h0, .ref hc, .ref so, .ref hp, .ref ho, .ref hh, .ref sl, .ref fl])), (hh, .inr (1, [.ref st, .int (iz (asd)), .int (iz (len))])), (st, .inl (T 1, 7, .inr (.inr (.inr (.inr (fun i => some (rw i))))))), (h0, .inr (2, [.ref h1, .int (iz (ve))])), (h1, .inl (T 0, 115, .inl (zA Z)))] ++ kRows T rw 7 115 G) sz) := by
  refine Met.ofW (cc := cX6_undo) (maxL := 1) (ret := (some .int)) (by decide) rfl ?_
  intro p e s m args below meth c s₁ B hml hv
  obtain ⟨rfl, hK, hsz, hP, hD0⟩ := hv
  have hx := B.exec
  have hb := B.bytes
  have hr := B.returns
  have hts := atoms_spec (ws := wsX6_undo) B.pre
  have hown : s.vm.findClass RX6 = some m.cls := findClass_of_methodNamed B.named
  have hlocks := B.notSynchronized
  have w0 := hts (.fieldLink RX6 51 "LakePlant" "history" "LLakePlant$History;") (List.mem_of_getElem? (i := 1) rfl)
  have w1 : ∀ w ∈ wsX60, w ∈ wsX6_undo := by decide +kernel
  have w2 := hts (.fieldLink RX6 10 "LakePlant" "lake" "LLakePlant$Lake;") (List.mem_of_getElem? (i := 2) rfl)
  have w3 := hts (.initialized RX1) (List.mem_of_getElem? (i := 4) rfl)
  have w4 := hts (.instanceMethod yX1_takeBack) (List.mem_of_getElem? (i := 3) rfl)
  have w5 := hts (.selects RX1 yX1_takeBack yX1_takeBack) (List.mem_of_getElem? (i := 5) rfl)
  subst hsz
  have hD := hD0.self (sz := s.heap.size)
  generalize hAe : va_A ([(px, .inr (6, [.ref h0, .ref hc, .ref so, .ref hp, .ref ho, .ref hh, .ref sl, .ref fl])), (hh, .inr (1, [.ref st, .int (iz (asd)), .int (iz (len))])), (st, .inl (T 1, 7, .inr (.inr (.inr (.inr (fun i => some (rw i))))))), (h0, .inr (2, [.ref h1, .int (iz (ve))])), (h1, .inl (T 0, 115, .inl (zA Z)))] ++ kRows T rw 7 115 G) s.heap.size = A at hD ⊢
  have hA : ∀ q : Nat, s.heap.size ≤ q → A q := fun q h => by rw [← hAe]; exact Or.inr h
  have hS : va_S A s.heap s.heap [] := va_S.rf
  have hP : va_P D vwCl ([(px, .inr (6, [.ref h0, .ref hc, .ref so, .ref hp, .ref ho, .ref hh, .ref sl, .ref fl])), (hh, .inr (1, [.ref st, .int (iz (asd)), .int (iz (len))])), (st, .inl (T 1, 7, .inr (.inr (.inr (.inr (fun i => some (rw i))))))), (h0, .inr (2, [.ref h1, .int (iz (ve))])), (h1, .inl (T 0, 115, .inl (zA Z)))] ++ kRows T rw 7 115 G) s.heap := hP
  have hl := lv_entry ([.ref px]) (n := 1) (Nat.le_of_ble_eq_true rfl)
  rw [lg_entry_eq]
  generalize (lg_sl ([.ref px]) ++ List.replicate (1 - (lg_sl ([.ref px])).length) Slot.unset).toArray = ls at hl ⊢
  have hl : lv_has ls 1 [(0, .ref px)] := hl
  refine lv_aload_n hx hb dX6_undo_0 rfl (lv_at hl 0 rfl) ?_
  refine va_get (D := D) (ci := 6) (C := RX6) (T := TX6) (N := 8) hx hb hts w1 hown hK.1 hP 0 rfl rfl 5 (by decide) w0 (fun _ h9 => h9) rfl dX6_undo_1 ?_
  refine lv_aload_n hx hb dX6_undo_4 rfl (lv_at hl 0 rfl) ?_
  refine va_get (D := D) (ci := 6) (C := RX6) (T := TX6) (N := 8) hx hb hts w1 hown hK.1 hP 0 rfl rfl 0 (by decide) w2 (fun _ h9 => h9) rfl dX6_undo_5 ?_
  refine kc_wiP (va_runVN (As := [.ref h0]) (rest := []) ⟨hx, hb, hml, hown, hts⟩ (c_X1_takeBack l D T s.heap.size hh st asd len rw G h0 h1 Z ve (by omega) (by omega)) ⟨va_cnB 1 hts gX6_undo_X1_takeBack_n221 rfl rfl rfl (kn_RX6_221 hK) w3 (by decide +kernel) ⟨Nat.le_of_ble_eq_true rfl, Nat.le_of_ble_eq_true rfl⟩, w4, w5⟩ (kPc.v hK (va_recv hK.1 hP (ci := 1) (q0 := 1) rfl rfl) (kW.cutP hP hD [1, 2, 3, 4] rfl (by rfl))) rfl rfl hl.1 rfl (lv_room (Nat.le_of_ble_eq_true rfl)) dX6_undo_8 ⟨Nat.zero_le _, Nat.zero_le _⟩) hP hD hS hA [1, 2, 3, 4] rfl (fun _ => rfl) (fun _ => kRows_fst) (fun r1 u H locs hr1 hP hD hS => ?_)
  have hP : va_P D vwCl ([(px, .inr (6, [.ref h0, .ref hc, .ref so, .ref hp, .ref ho, .ref hh, .ref sl, .ref fl])), (hh, .inr (1, [.ref st, .int (iz (if len = 0 then asd else (asd + 6) % 7)), .int (iz (if len = 0 then len else len - 1))])), (st, .inl (T 1, 7, .inr (.inr (.inr (.inr (fun i => some (rw i))))))), (h0, .inr (2, [.ref h1, .int (iz (if len = 0 then ve else ve + 1))])), (h1, .inl (T 0, 115, .inl (zA (if len = 0 then Z else zmix 115 (G ((asd + 6) % 7).toNat) Z))))] ++ kRows T rw 7 115 G) H := hP
  have hD : va_D A ([(px, .inr (6, [.ref h0, .ref hc, .ref so, .ref hp, .ref ho, .ref hh, .ref sl, .ref fl])), (hh, .inr (1, [.ref st, .int (iz (if len = 0 then asd else (asd + 6) % 7)), .int (iz (if len = 0 then len else len - 1))])), (st, .inl (T 1, 7, .inr (.inr (.inr (.inr (fun i => some (rw i))))))), (h0, .inr (2, [.ref h1, .int (iz (if len = 0 then ve else ve + 1))])), (h1, .inl (T 0, 115, .inl (zA (if len = 0 then Z else zmix 115 (G ((asd + 6) % 7).toNat) Z))))] ++ kRows T rw 7 115 G) := hD
  subst hr1
  exact W.iret hx hb hr (fun t ht hW => ⟨⟨_, (), rfl, rfl, by show va_P _ _ _ t.heap; rw [ht]; exact hP⟩, hS.F ht⟩) hS.2.2 dX6_undo_11
set_option maxHeartbeats 4000000 in
set_option maxRecDepth 100000 in
theorem c_X6_highest (l : Launch) (D : va_G) (T : Nat → ClassId) (px : Nat) (hc : Nat) (so : Nat) (hp : Nat) (ho : Nat) (sl : Nat) (fl : Nat) (hh : Nat) (h0 : Nat) (h1 : Nat) (Z : Nat → Int) (ve : Int) (hV : VL Z) : Met l yX6_highest wsX6_highest ({ frames := 4, cells := 0, slots := 0, locals := 91 }) (kPc D T [.ref px] (va_P D vwCl [(px, .inr (6, [.ref h0, .ref hc, .ref so, .ref hp, .ref ho, .ref hh, .ref sl, .ref fl])), (h0, .inr (2, [.ref h1, .int (iz (ve))])), (h1, .inl (T 0, 115, .inl (zA Z)))])) (vp_Si (fun r : Int32 => r = iz (lk_top Z 24))) 0 0 (fun _ => False) := by
  refine Met.ofW (cc := cX6_highest) (maxL := 1) (ret := (some .int)) (by decide) rfl ?_
  intro p e s m args below meth c s₁ B hml hv
  obtain ⟨rfl, hK, hP⟩ := hv
  have hx := B.exec
  have hb := B.bytes
  have hr := B.returns
  have hts := atoms_spec (ws := wsX6_highest) B.pre
  have hown : s.vm.findClass RX6 = some m.cls := findClass_of_methodNamed B.named
  have hlocks := B.notSynchronized
  have w0 := hts (.fieldLink RX6 10 "LakePlant" "lake" "LLakePlant$Lake;") (List.mem_of_getElem? (i := 1) rfl)
  have w1 : ∀ w ∈ wsX60, w ∈ wsX6_highest := by decide +kernel
  have w2 := hts (.initialized RX2) (List.mem_of_getElem? (i := 3) rfl)
  have w3 := hts (.instanceMethod yX2_highestInTheEnd) (List.mem_of_getElem? (i := 2) rfl)
  have w4 := hts (.selects RX2 yX2_highestInTheEnd yX2_highestInTheEnd) (List.mem_of_getElem? (i := 4) rfl)
  have hP : va_P D vwCl [(px, .inr (6, [.ref h0, .ref hc, .ref so, .ref hp, .ref ho, .ref hh, .ref sl, .ref fl])), (h0, .inr (2, [.ref h1, .int (iz (ve))])), (h1, .inl (T 0, 115, .inl (zA Z)))] s.heap := hP
  have hl := lv_entry ([.ref px]) (n := 1) (Nat.le_of_ble_eq_true rfl)
  rw [lg_entry_eq]
  generalize (lg_sl ([.ref px]) ++ List.replicate (1 - (lg_sl ([.ref px])).length) Slot.unset).toArray = ls at hl ⊢
  have hl : lv_has ls 1 [(0, .ref px)] := hl
  refine lv_aload_n hx hb dX6_highest_0 rfl (lv_at hl 0 rfl) ?_
  refine va_get (D := D) (ci := 6) (C := RX6) (T := TX6) (N := 8) hx hb hts w1 hown hK.1 hP 0 rfl rfl 0 (by decide) w0 (fun _ h9 => h9) rfl dX6_highest_1 ?_
  refine kc_i (va_runVN (As := []) (rest := []) ⟨hx, hb, hml, hown, hts⟩ (c_X2_highestInTheEnd l D T h0 h1 Z ve hV) ⟨va_cnB 0 hts gX6_highest_X2_highestInTheEnd_n194 rfl rfl rfl (kn_RX6_194 hK) w2 (by decide +kernel) ⟨Nat.le_of_ble_eq_true rfl, Nat.le_of_ble_eq_true rfl⟩, w3, w4⟩ (kPc.v hK (va_recv hK.1 hP (ci := 2) (q0 := 1) rfl rfl) (kcut hP [1, 2] rfl)) rfl rfl hl.1 rfl (lv_room (Nat.le_of_ble_eq_true rfl)) dX6_highest_4 ⟨Nat.zero_le _, Nat.zero_le _⟩) (fun r1 hr1 => ?_)
  subst hr1
  exact W.iret hx hb hr (fun t ht _ => ⟨_, rfl, rfl, ht⟩) (fun _ h => absurd h List.not_mem_nil) dX6_highest_7
set_option maxHeartbeats 4000000 in
set_option maxRecDepth 100000 in
theorem c_X6_moneyOfDay (l : Launch) (D : va_G) (T : Nat → ClassId) (px : Nat) (hc : Nat) (so : Nat) (hp : Nat) (ho : Nat) (sl : Nat) (fl : Nat) (h0 : Nat) (hh : Nat) (a1 : Nat) (a2 : Nat) (a3 : Nat) (a4 : Nat) (a5 : Nat) (a6 : Nat) (a7 : Nat) (a8 : Nat) (F6 : Nat → Int) : Met l yX6_moneyOfDay wsX6_moneyOfDay ({ frames := 1, cells := 0, slots := 0, locals := 22 }) (kPc D T [.ref px] (va_P D vwCl [(px, .inr (6, [.ref h0, .ref hc, .ref so, .ref hp, .ref ho, .ref hh, .ref sl, .ref fl])), (hc, .inr (0, [.ref h0, .ref a1, .ref a2, .ref a3, .ref a4, .ref a5, .ref a6, .ref a7, .ref a8])), (a6, .inl (T 0, 24, .inl (zA F6)))])) (vp_Si (fun r : Int32 => r = iz (zsum F6 24 + 10000000))) 0 0 (fun _ => False) := by
  refine Met.ofW (cc := cX6_moneyOfDay) (maxL := 1) (ret := (some .int)) (by decide) rfl ?_
  intro p e s m args below meth c s₁ B hml hv
  obtain ⟨rfl, hK, hP⟩ := hv
  have hx := B.exec
  have hb := B.bytes
  have hr := B.returns
  have hts := atoms_spec (ws := wsX6_moneyOfDay) B.pre
  have hown : s.vm.findClass RX6 = some m.cls := findClass_of_methodNamed B.named
  have hlocks := B.notSynchronized
  have w0 := hts (.fieldLink RX6 21 "LakePlant" "course" "LLakePlant$Course;") (List.mem_of_getElem? (i := 1) rfl)
  have w1 : ∀ w ∈ wsX60, w ∈ wsX6_moneyOfDay := by decide +kernel
  have w2 : ∀ w ∈ wsX00, w ∈ wsX6_moneyOfDay := by decide +kernel
  have w3 := hts (.constant RX6 186 (10000000)) (List.mem_of_getElem? (i := 2) rfl)
  have hP : va_P D vwCl [(px, .inr (6, [.ref h0, .ref hc, .ref so, .ref hp, .ref ho, .ref hh, .ref sl, .ref fl])), (hc, .inr (0, [.ref h0, .ref a1, .ref a2, .ref a3, .ref a4, .ref a5, .ref a6, .ref a7, .ref a8])), (a6, .inl (T 0, 24, .inl (zA F6)))] s.heap := hP
  have hl := lv_entry ([.ref px]) (n := 1) (Nat.le_of_ble_eq_true rfl)
  rw [lg_entry_eq]
  generalize (lg_sl ([.ref px]) ++ List.replicate (1 - (lg_sl ([.ref px])).length) Slot.unset).toArray = ls at hl ⊢
  have hl : lv_has ls 1 [(0, .ref px)] := hl
  refine lv_aload_n hx hb dX6_moneyOfDay_0 rfl (lv_at hl 0 rfl) ?_
  refine va_get (D := D) (ci := 6) (C := RX6) (T := TX6) (N := 8) hx hb hts w1 hown hK.1 hP 0 rfl rfl 1 (by decide) w0 (fun _ h9 => h9) rfl dX6_moneyOfDay_1 ?_
  refine va_getN (D := D) (ci := 0) (C := RX0) (T := TX0) (N := 9) hx hb hts w2 hown hK.1 hP 1 rfl rfl 6 (by decide) (kb_RX6_127 hK) (fun _ h9 => h9) rfl dX6_moneyOfDay_4 ?_
  refine kc_i (va_runS (As := [.ref a6]) (rest := []) ⟨hx, hb, hml, hown, hts⟩ (c_X6_sumOf l D T a6 F6) (va_cwS 1 hts gX6_moneyOfDay_X6_sumOf rfl rfl rfl (by decide +kernel) ⟨Nat.le_of_ble_eq_true rfl, Nat.le_of_ble_eq_true rfl⟩) (kPc.s hK (kcut hP [2] rfl)) rfl rfl hl.1 rfl (lv_room (Nat.le_of_ble_eq_true rfl)) dX6_moneyOfDay_7 ⟨Nat.zero_le _, Nat.zero_le _⟩) (fun r1 hr1 => ?_)
  subst hr1
  refine lv_ldc (v := (10000000 : Int32)) hx hb hown w3 dX6_moneyOfDay_10 ?_
  refine W.eq (g2 := F0 m 12 ls (.int (iz (10000000)) :: [.int (iz (zsum F6 24))])) (by rw [show iz (10000000) = (10000000 : Int32) from by decide]) ?_
  refine kz_add hx hb dX6_moneyOfDay_12 ?_
  exact W.iret hx hb hr (fun t ht _ => ⟨_, rfl, rfl, ht⟩) (fun _ h => absurd h List.not_mem_nil) dX6_moneyOfDay_13
