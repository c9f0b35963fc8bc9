set_option maxHeartbeats 4000000 in
set_option maxRecDepth 100000 in
theorem c_X7_of (l : Launch) (D : va_G) (T : Nat → ClassId) (mm : Nat) (nw : Nat) (pa : Nat) (kp : Int) (zl : Nat) (hd : Nat) (pd : Nat) (pn : Int) (at0 : Int) (os : Nat) (od : Int) (dn : Int) (pu : Int) (lo2 : Int) (sp2 : Int) (lv2 : Int) (wa : Int) (mt : Nat) (cn : Nat) (Z : Nat → Int) (cc : Nat) (wj : Nat) (hcc : cc < 8 ∧ wj < 4) : Met l yX7_of wsX7_of ({ frames := 0, cells := 0, slots := 0, locals := 0 }) (kPc D T [.ref mm, .int (iz (((cc : Nat) : Int))), .int (iz (((wj : Nat) : Int)))] (va_P D vwCl [(mm, .inr (7, [.ref nw, .ref pa, .int (iz (kp)), .ref zl, .ref hd, .ref pd, .int (iz (pn)), .int (iz (at0)), .ref os, .int (iz (od)), .int (iz (dn)), .int (iz (pu)), .int (iz (lo2)), .int (iz (sp2)), .int (iz (lv2)), .int (iz (wa)), .ref mt, .ref cn])), (nw, .inl (T 0, 115, .inl (zA (mz Z))))])) (vp_Si (fun r : Int32 => r = iz (Z (82 + cc * 4 + wj)))) 0 0 (fun _ => False) := by
  refine Met.ofW (cc := cX7_of) (maxL := 3) (ret := (some .int)) (by decide) rfl ?_
  intro p e s m args below meth c s₁ B hml hv
  obtain ⟨rfl, hK, hP⟩ := hv
  have hx := B.exec
  have hb := B.bytes
  have hr := B.returns
  have hts := atoms_spec (ws := wsX7_of) B.pre
  have hown : s.vm.findClass RX7 = some m.cls := findClass_of_methodNamed B.named
  have hlocks := B.notSynchronized
  have w0 := hts (.fieldLink RX7 7 "LakePlantModel" "now" "[I") (List.mem_of_getElem? (i := 1) rfl)
  have w1 : ∀ w ∈ wsX70, w ∈ wsX7_of := by decide +kernel
  have hP : va_P D vwCl [(mm, .inr (7, [.ref nw, .ref pa, .int (iz (kp)), .ref zl, .ref hd, .ref pd, .int (iz (pn)), .int (iz (at0)), .ref os, .int (iz (od)), .int (iz (dn)), .int (iz (pu)), .int (iz (lo2)), .int (iz (sp2)), .int (iz (lv2)), .int (iz (wa)), .ref mt, .ref cn])), (nw, .inl (T 0, 115, .inl (zA (mz Z))))] s.heap := hP
  have hl := lv_entry ([.ref mm, .int (iz (((cc : Nat) : Int))), .int (iz (((wj : Nat) : Int)))]) (n := 3) (Nat.le_of_ble_eq_true rfl)
  rw [lg_entry_eq]
  generalize (lg_sl ([.ref mm, .int (iz (((cc : Nat) : Int))), .int (iz (((wj : Nat) : Int)))]) ++ List.replicate (3 - (lg_sl ([.ref mm, .int (iz (((cc : Nat) : Int))), .int (iz (((wj : Nat) : Int)))])).length) Slot.unset).toArray = ls at hl ⊢
  have hl : lv_has ls 3 [(0, .ref mm), (1, .int (iz (((cc : Nat) : Int)))), (2, .int (iz (((wj : Nat) : Int))))] := hl
  refine lv_aload_n hx hb dX7_of_0 rfl (lv_at hl 0 rfl) ?_
  refine va_get (D := D) (ci := 7) (C := RX7) (T := TX7) (N := 18) hx hb hts w1 hown hK.1 hP 0 rfl rfl 0 (by decide) w0 (fun _ h9 => h9) rfl dX7_of_1 ?_
  refine lv_bipush (v := iz (83)) hx hb dX7_of_4 (by decide) ?_
  refine lv_iconst (v := iz (4)) hx hb dX7_of_6 (by decide) ?_
  refine lv_iload_n hx hb dX7_of_7 rfl (lv_at hl 1 rfl) ?_
  refine kz_mul hx hb dX7_of_8 ?_
  refine kz_add hx hb dX7_of_9 ?_
  refine lv_iload_n hx hb dX7_of_10 rfl (lv_at hl 2 rfl) ?_
  refine kz_add hx hb dX7_of_11 ?_
  refine kz_iald hx hb hK hP (1) rfl (83 + 4 * cc + wj) (by omega) (by omega) (by omega) dX7_of_12 ?_
  refine kz_top (y := Z (82 + cc * 4 + wj)) (mz_row (by omega)) ?_
  exact W.iret hx hb hr (fun t ht _ => ⟨_, rfl, rfl, ht⟩) (fun _ h => absurd h List.not_mem_nil) dX7_of_13
set_option maxHeartbeats 4000000 in
set_option maxRecDepth 100000 in
theorem c_X7_lays (l : Launch) (D : va_G) (T : Nat → ClassId) (sz : Nat) (fa : Nat) (ta : Nat) (fn : Nat) (tn : Nat) (fi : Nat) (ti : Nat) (FF : Nat → Int) (TT : Nat → Int) (hfi : fi + 115 ≤ fn ∧ fn ≤ 10000) (hti : ti + 115 ≤ tn ∧ tn ≤ 10000) : Met l yX7_lays wsX7_lays ({ frames := 0, cells := 0, slots := 0, locals := 0 }) (kPc D T [.ref fa, .int (iz (((fi : Nat) : Int))), .ref ta, .int (iz (((ti : Nat) : Int)))] (kW D sz [(fa, .inl (T 0, fn, .inl (zA FF))), (ta, .inl (T 0, tn, .inl (zA TT)))])) (va_Qv (fun (u : Unit) => True) (fun (u : Unit) (t : State) => va_P D vwCl [(fa, .inl (T 0, fn, .inl (zA FF))), (ta, .inl (T 0, tn, .inl (zA (zlay ti 115 (fun q => FF (fi + q)) TT))))] t.heap) (va_A [(fa, .inl (T 0, fn, .inl (zA FF))), (ta, .inl (T 0, tn, .inl (zA TT)))] sz)) 0 0 (va_A [(fa, .inl (T 0, fn, .inl (zA FF))), (ta, .inl (T 0, tn, .inl (zA TT)))] sz) := by
  refine Met.ofW (cc := cX7_lays) (maxL := 5) (ret := none) (by decide) rfl ?_
  intro p e s m args below meth c s₁ B hml hv
  obtain ⟨rfl, hK, hsz, hP, hD0⟩ := hv
  have hx := B.exec
  have hb := B.bytes
  have hr := B.returns
  have hts := atoms_spec (ws := wsX7_lays) B.pre
  have hown : s.vm.findClass RX7 = some m.cls := findClass_of_methodNamed B.named
  have hlocks := B.notSynchronized
  subst hsz
  have hD := hD0.self (sz := s.heap.size)
  generalize hAe : va_A [(fa, .inl (T 0, fn, .inl (zA FF))), (ta, .inl (T 0, tn, .inl (zA TT)))] s.heap.size = A at hD ⊢
  have hA : ∀ q : Nat, s.heap.size ≤ q → A q := fun q h => by rw [← hAe]; exact Or.inr h
  have hS : va_S A s.heap s.heap [] := va_S.rf
  have hP : va_P D vwCl [(fa, .inl (T 0, fn, .inl (zA FF))), (ta, .inl (T 0, tn, .inl (zA TT)))] s.heap := hP
  have hl := lv_entry ([.ref fa, .int (iz (((fi : Nat) : Int))), .ref ta, .int (iz (((ti : Nat) : Int)))]) (n := 5) (Nat.le_of_ble_eq_true rfl)
  rw [lg_entry_eq]
  generalize (lg_sl ([.ref fa, .int (iz (((fi : Nat) : Int))), .ref ta, .int (iz (((ti : Nat) : Int)))]) ++ List.replicate (5 - (lg_sl ([.ref fa, .int (iz (((fi : Nat) : Int))), .ref ta, .int (iz (((ti : Nat) : Int)))])).length) Slot.unset).toArray = ls at hl ⊢
  have hl : lv_has ls 5 [(0, .ref fa), (1, .int (iz (((fi : Nat) : Int)))), (2, .ref ta), (3, .int (iz (((ti : Nat) : Int))))] := hl
  refine lv_iconst (v := iz (0)) hx hb dX7_lays_0 (by decide) ?_
  refine lv_istore (lv' := [(4, .int (iz (0))), (0, .ref fa), (1, .int (iz (((fi : Nat) : Int)))), (2, .ref ta), (3, .int (iz (((ti : Nat) : Int))))]) hx hb dX7_lays_1 hl (by decide) rfl (fun ls hl => ?_)
  have hl : lv_has ls 5 [(4, .int (iz (((0 : Nat) : Int)))), (0, .ref fa), (1, .int (iz (((fi : Nat) : Int)))), (2, .ref ta), (3, .int (iz (((ti : Nat) : Int))))] := by rw [← (show (0 : Int) = ((0 : Nat) : Int) from (by first | rfl | omega))]; exact hl
  have hZ : (TT : Nat → Int) = zlay ti 0 (fun q => FF (fi + q)) TT := (zlay_0 _ _ _)
  have hP : va_P D vwCl [(fa, .inl (T 0, fn, .inl (zA FF))), (ta, .inl (T 0, tn, .inl (zA (zlay ti 0 (fun q => FF (fi + q)) TT))))] s.heap := by rw [← hZ]; exact hP
  have hD : va_D A [(fa, .inl (T 0, fn, .inl (zA FF))), (ta, .inl (T 0, tn, .inl (zA (zlay ti 0 (fun q => FF (fi + q)) TT))))] := by rw [← hZ]; exact hD
  refine kz_loopW1 (pc := 3) (I := fun (n : Nat) (H : Heap) (locs : List Loc) (ls : Array Slot) => (n ≤ 115) ∧ va_P D vwCl [(fa, .inl (T 0, fn, .inl (zA FF))), (ta, .inl (T 0, tn, .inl (zA (zlay ti n (fun q => FF (fi + q)) TT))))] H ∧ va_D A [(fa, .inl (T 0, fn, .inl (zA FF))), (ta, .inl (T 0, tn, .inl (zA (zlay ti n (fun q => FF (fi + q)) TT))))] ∧ va_S A s.heap H locs ∧ lv_has ls 5 [(0, .ref fa), (1, .int (iz (((fi : Nat) : Int)))), (2, .ref ta), (3, .int (iz (((ti : Nat) : Int)))), (4, .int (iz (((n : Nat) : Int))))]) (μ := fun (n : Nat) => 115 - n) 0 ⟨(by omega), hP, hD, hS, lv_sub hl [1, 2, 3, 4, 0] rfl⟩ ?_
  rintro n H locs ls ⟨hn, hP, hD, hS, hl⟩ ih3
  refine lv_iload hx hb dX7_lays_3 (lv_at hl 4 rfl) ?_
  refine lv_bipush (v := iz (115)) hx hb dX7_lays_5 (by decide) ?_
  refine kz_icmp_ge (tgt := 28) hx hb dX7_lays_7 (by decide) (by omega) (by omega) (fun c7 => ?_) (fun c7 => ?_)
  · have hnn : n = 115 := by omega
    subst hnn
    have hl : lv_has ls 5 [(0, .ref fa), (1, .int (iz (((fi : Nat) : Int)))), (2, .ref ta), (3, .int (iz (((ti : Nat) : Int)))), (4, .int (iz (((115 : Nat) : Int))))] := hl
    exact W.vret hx hb hr (fun t ht hW => ⟨⟨(), rfl, trivial, by show va_P _ _ _ t.heap; rw [ht]; exact hP⟩, hS.F ht⟩) hS.2.2 dX7_lays_28
  · refine lv_aload_n hx hb dX7_lays_10 rfl (lv_at hl 2 rfl) ?_
    refine lv_iload_n hx hb dX7_lays_11 rfl (lv_at hl 3 rfl) ?_
    refine lv_iload hx hb dX7_lays_12 (lv_at hl 4 rfl) ?_
    refine kz_add hx hb dX7_lays_14 ?_
    refine lv_aload_n hx hb dX7_lays_15 rfl (lv_at hl 0 rfl) ?_
    refine lv_iload_n hx hb dX7_lays_16 rfl (lv_at hl 1 rfl) ?_
    refine lv_iload hx hb dX7_lays_17 (lv_at hl 4 rfl) ?_
    refine kz_add hx hb dX7_lays_19 ?_
    refine kz_iald hx hb hK hP (0) rfl (fi + n) (by omega) (by omega) (by omega) dX7_lays_20 ?_
    refine kz_iast hx hb hK hP hD hS (1) rfl (ti + n) (by omega) (by omega) (by omega) dX7_lays_21 (fun H locs hP hD hS => ?_)
    have hP : va_P D vwCl [(fa, .inl (T 0, fn, .inl (zA FF))), (ta, .inl (T 0, tn, .inl (zA (zup (zlay ti n (fun q => FF (fi + q)) TT) (ti + n) (FF (fi + n))))))] H := hP
    have hD : va_D A [(fa, .inl (T 0, fn, .inl (zA FF))), (ta, .inl (T 0, tn, .inl (zA (zup (zlay ti n (fun q => FF (fi + q)) TT) (ti + n) (FF (fi + n))))))] := hD
    refine kz_iinc (b := ((n + 1 : Nat) : Int)) (lv' := [(4, .int (iz (((n + 1 : Nat) : Int)))), (0, .ref fa), (1, .int (iz (((fi : Nat) : Int)))), (2, .ref ta), (3, .int (iz (((ti : Nat) : Int))))]) hx hb dX7_lays_22 hl (k := 4) rfl (by omega) (by decide) rfl (fun ls hl => ?_)
    refine lv_goto (tgt := 3) hx hb dX7_lays_25 (by decide) ?_
    have hZ : (zup (zlay ti n (fun q => FF (fi + q)) TT) (ti + n) (FF (fi + n)) : Nat → Int) = zlay ti (n + 1) (fun q => FF (fi + q)) TT := (zlay_s rfl)
    have hP : va_P D vwCl [(fa, .inl (T 0, fn, .inl (zA FF))), (ta, .inl (T 0, tn, .inl (zA (zlay ti (n + 1) (fun q => FF (fi + q)) TT))))] H := by rw [← hZ]; exact hP
    have hD : va_D A [(fa, .inl (T 0, fn, .inl (zA FF))), (ta, .inl (T 0, tn, .inl (zA (zlay ti (n + 1) (fun q => FF (fi + q)) TT))))] := by rw [← hZ]; exact hD
    exact ih3 (n + 1) _ _ _ ⟨(by omega), hP, hD, hS, lv_sub hl [1, 2, 3, 4, 0] rfl⟩ (by omega)
set_option maxHeartbeats 4000000 in
set_option maxRecDepth 100000 in
theorem c_X7_records (l : Launch) (D : va_G) (T : Nat → ClassId) (sz : Nat) (mm : Nat) (nw : Nat) (pa : Nat) (kp : Int) (zl : Nat) (hd : Nat) (pd : Nat) (pn : Int) (at0 : Int) (os : Nat) (od : Int) (dn : Int) (pu : Int) (lo2 : Int) (sp2 : Int) (lv2 : Int) (wa : Int) (mt : Nat) (cn : Nat) (Z : Nat → Int) (F0_ : Nat → Int) (hkp : 0 ≤ kp ∧ kp ≤ 6) : Met l yX7_records wsX7_records ({ frames := 1, cells := 0, slots := 0, locals := 24 }) (kPc D T [.ref mm] (kW D sz [(mm, .inr (7, [.ref nw, .ref pa, .int (iz (kp)), .ref zl, .ref hd, .ref pd, .int (iz (pn)), .int (iz (at0)), .ref os, .int (iz (od)), .int (iz (dn)), .int (iz (pu)), .int (iz (lo2)), .int (iz (sp2)), .int (iz (lv2)), .int (iz (wa)), .ref mt, .ref cn])), (nw, .inl (T 0, 115, .inl (zA (mz Z)))), (pa, .inl (T 0, 690, .inl (zA F0_)))])) (va_Qv (fun (u : Unit) => True) (fun (u : Unit) (t : State) => va_P D vwCl [(mm, .inr (7, [.ref nw, .ref pa, .int (iz (rc_n kp)), .ref zl, .ref hd, .ref pd, .int (iz (pn)), .int (iz (at0)), .ref os, .int (iz (od)), .int (iz (dn)), .int (iz (pu)), .int (iz (lo2)), .int (iz (sp2)), .int (iz (lv2)), .int (iz (wa)), .ref mt, .ref cn])), (nw, .inl (T 0, 115, .inl (zA (mz Z)))), (pa, .inl (T 0, 690, .inl (zA (rc_F F0_ kp (mz Z)))))] t.heap) (va_A [(mm, .inr (7, [.ref nw, .ref pa, .int (iz (kp)), .ref zl, .ref hd, .ref pd, .int (iz (pn)), .int (iz (at0)), .ref os, .int (iz (od)), .int (iz (dn)), .int (iz (pu)), .int (iz (lo2)), .int (iz (sp2)), .int (iz (lv2)), .int (iz (wa)), .ref mt, .ref cn])), (nw, .inl (T 0, 115, .inl (zA (mz Z)))), (pa, .inl (T 0, 690, .inl (zA F0_)))] sz)) 0 0 (va_A [(mm, .inr (7, [.ref nw, .ref pa, .int (iz (kp)), .ref zl, .ref hd, .ref pd, .int (iz (pn)), .int (iz (at0)), .ref os, .int (iz (od)), .int (iz (dn)), .int (iz (pu)), .int (iz (lo2)), .int (iz (sp2)), .int (iz (lv2)), .int (iz (wa)), .ref mt, .ref cn])), (nw, .inl (T 0, 115, .inl (zA (mz Z)))), (pa, .inl (T 0, 690, .inl (zA F0_)))] sz) := by
  refine Met.ofW (cc := cX7_records) (maxL := 2) (ret := none) (by decide) rfl ?_
  intro p e s m args below meth c s₁ B hml hv
  obtain ⟨rfl, hK, hsz, hP, hD0⟩ := hv
  have hx := B.exec
  have hb := B.bytes
  have hr := B.returns
  have hts := atoms_spec (ws := wsX7_records) B.pre
  have hown : s.vm.findClass RX7 = some m.cls := findClass_of_methodNamed B.named
  have hlocks := B.notSynchronized
  have w0 := hts (.fieldLink RX7 39 "LakePlantModel" "kept" "I") (List.mem_of_getElem? (i := 1) rfl)
  have w1 : ∀ w ∈ wsX70, w ∈ wsX7_records := by decide +kernel
  have w2 := hts (.fieldLink RX7 7 "LakePlantModel" "now" "[I") (List.mem_of_getElem? (i := 3) rfl)
  have w3 := hts (.fieldLink RX7 13 "LakePlantModel" "past" "[I") (List.mem_of_getElem? (i := 2) rfl)
  subst hsz
  have hD := hD0.self (sz := s.heap.size)
  generalize hAe : va_A [(mm, .inr (7, [.ref nw, .ref pa, .int (iz (kp)), .ref zl, .ref hd, .ref pd, .int (iz (pn)), .int (iz (at0)), .ref os, .int (iz (od)), .int (iz (dn)), .int (iz (pu)), .int (iz (lo2)), .int (iz (sp2)), .int (iz (lv2)), .int (iz (wa)), .ref mt, .ref cn])), (nw, .inl (T 0, 115, .inl (zA (mz Z)))), (pa, .inl (T 0, 690, .inl (zA F0_)))] s.heap.size = A at hD ⊢
  have hA : ∀ q : Nat, s.heap.size ≤ q → A q := fun q h => by rw [← hAe]; exact Or.inr h
  have hS : va_S A s.heap s.heap [] := va_S.rf
  have hP : va_P D vwCl [(mm, .inr (7, [.ref nw, .ref pa, .int (iz (kp)), .ref zl, .ref hd, .ref pd, .int (iz (pn)), .int (iz (at0)), .ref os, .int (iz (od)), .int (iz (dn)), .int (iz (pu)), .int (iz (lo2)), .int (iz (sp2)), .int (iz (lv2)), .int (iz (wa)), .ref mt, .ref cn])), (nw, .inl (T 0, 115, .inl (zA (mz Z)))), (pa, .inl (T 0, 690, .inl (zA F0_)))] s.heap := hP
  have hl := lv_entry ([.ref mm]) (n := 2) (Nat.le_of_ble_eq_true rfl)
  rw [lg_entry_eq]
  generalize (lg_sl ([.ref mm]) ++ List.replicate (2 - (lg_sl ([.ref mm])).length) Slot.unset).toArray = ls at hl ⊢
  have hl : lv_has ls 2 [(0, .ref mm)] := hl
  have hrk : rc_k kp ≤ 5 := by unfold rc_k; split <;> omega
  refine lv_aload_n hx hb dX7_records_0 rfl (lv_at hl 0 rfl) ?_
  refine va_get (D := D) (ci := 7) (C := RX7) (T := TX7) (N := 18) hx hb hts w1 hown hK.1 hP 0 rfl rfl 2 (by decide) w0 (fun _ h9 => h9) rfl dX7_records_1 ?_
  refine lv_bipush (v := iz (6)) hx hb dX7_records_4 (by decide) ?_
  refine kz_icmp_ne (tgt := 49) hx hb dX7_records_6 (by decide) (by omega) (by omega) (fun c6 => ?_) (fun c6 => ?_)
  · refine lv_aload_n hx hb dX7_records_49 rfl (lv_at hl 0 rfl) ?_
    refine va_get (D := D) (ci := 7) (C := RX7) (T := TX7) (N := 18) hx hb hts w1 hown hK.1 hP 0 rfl rfl 0 (by decide) w2 (fun _ h9 => h9) rfl dX7_records_50 ?_
    refine lv_iconst (v := iz (0)) hx hb dX7_records_53 (by decide) ?_
    refine lv_aload_n hx hb dX7_records_54 rfl (lv_at hl 0 rfl) ?_
    refine va_get (D := D) (ci := 7) (C := RX7) (T := TX7) (N := 18) hx hb hts w1 hown hK.1 hP 0 rfl rfl 1 (by decide) w3 (fun _ h9 => h9) rfl dX7_records_55 ?_
    refine lv_bipush (v := iz (115)) hx hb dX7_records_58 (by decide) ?_
    refine lv_aload_n hx hb dX7_records_60 rfl (lv_at hl 0 rfl) ?_
    refine va_get (D := D) (ci := 7) (C := RX7) (T := TX7) (N := 18) hx hb hts w1 hown hK.1 hP 0 rfl rfl 2 (by decide) w0 (fun _ h9 => h9) rfl dX7_records_61 ?_
    refine kz_mul hx hb dX7_records_64 ?_
    refine kz_top (y := ((115 * rc_k kp : Nat) : Int)) (by unfold rc_k; split <;> omega) ?_
    refine kc_wv (va_runS (As := [.ref nw, .int (iz (0)), .ref pa, .int (iz (((115 * rc_k kp : Nat) : Int)))]) (rest := []) ⟨hx, hb, hml, hown, hts⟩ (c_X7_lays l D T s.heap.size nw pa 115 690 0 (115 * rc_k kp) (mz Z) F0_ (by omega) (by omega)) (va_cwS 4 hts gX7_records_X7_lays rfl rfl rfl (by decide +kernel) ⟨Nat.le_of_ble_eq_true rfl, Nat.le_of_ble_eq_true rfl⟩) (kPc.s hK (kW.cut hP hD [1, 2] rfl (by rfl))) rfl rfl hl.1 rfl (lv_room (Nat.le_of_ble_eq_true rfl)) dX7_records_65 ⟨Nat.zero_le _, Nat.zero_le _⟩) hP hD hS hA [1, 2] rfl (fun _ => rfl) (fun u H locs hr1 hP hD hS => ?_)
    have hP : va_P D vwCl [(mm, .inr (7, [.ref nw, .ref pa, .int (iz (kp)), .ref zl, .ref hd, .ref pd, .int (iz (pn)), .int (iz (at0)), .ref os, .int (iz (od)), .int (iz (dn)), .int (iz (pu)), .int (iz (lo2)), .int (iz (sp2)), .int (iz (lv2)), .int (iz (wa)), .ref mt, .ref cn])), (nw, .inl (T 0, 115, .inl (zA (mz Z)))), (pa, .inl (T 0, 690, .inl (zA (zlay (115 * rc_k kp) 115 (fun q => (mz Z) (0 + q)) F0_))))] H := hP
    have hD : va_D A [(mm, .inr (7, [.ref nw, .ref pa, .int (iz (kp)), .ref zl, .ref hd, .ref pd, .int (iz (pn)), .int (iz (at0)), .ref os, .int (iz (od)), .int (iz (dn)), .int (iz (pu)), .int (iz (lo2)), .int (iz (sp2)), .int (iz (lv2)), .int (iz (wa)), .ref mt, .ref cn])), (nw, .inl (T 0, 115, .inl (zA (mz Z)))), (pa, .inl (T 0, 690, .inl (zA (zlay (115 * rc_k kp) 115 (fun q => (mz Z) (0 + q)) F0_))))] := hD
    refine lv_aload_n hx hb dX7_records_68 rfl (lv_at hl 0 rfl) ?_
    refine lv_dup hx hb dX7_records_69 rfl ?_
    refine va_get (D := D) (ci := 7) (C := RX7) (T := TX7) (N := 18) hx hb hts w1 hown hK.1 hP 0 rfl rfl 2 (by decide) w0 (fun _ h9 => h9) rfl dX7_records_70 ?_
    refine lv_iconst (v := iz (1)) hx hb dX7_records_73 (by decide) ?_
    refine kz_add hx hb dX7_records_74 ?_
    refine va_put (D := D) (ci := 7) (v := .int (iz (kp + 1))) (ty := .int) (C := RX7) (T := TX7) (N := 18) hx hb hts w1 tyX7 tyX7_ok nmX7 hown hK.1 hP hD hS 0 rfl rfl 2 (by decide) w0 (fun _ h9 => h9) rfl (by decide +kernel) rfl rfl (Nat.le_of_ble_eq_true rfl) dX7_records_75 (fun H locs hP hD hS => ?_)
    have hP : va_P D vwCl [(mm, .inr (7, [.ref nw, .ref pa, .int (iz (kp + 1)), .ref zl, .ref hd, .ref pd, .int (iz (pn)), .int (iz (at0)), .ref os, .int (iz (od)), .int (iz (dn)), .int (iz (pu)), .int (iz (lo2)), .int (iz (sp2)), .int (iz (lv2)), .int (iz (wa)), .ref mt, .ref cn])), (nw, .inl (T 0, 115, .inl (zA (mz Z)))), (pa, .inl (T 0, 690, .inl (zA (zlay (115 * rc_k kp) 115 (fun q => (mz Z) (0 + q)) F0_))))] H := hP
    have hD : va_D A [(mm, .inr (7, [.ref nw, .ref pa, .int (iz (kp + 1)), .ref zl, .ref hd, .ref pd, .int (iz (pn)), .int (iz (at0)), .ref os, .int (iz (od)), .int (iz (dn)), .int (iz (pu)), .int (iz (lo2)), .int (iz (sp2)), .int (iz (lv2)), .int (iz (wa)), .ref mt, .ref cn])), (nw, .inl (T 0, 115, .inl (zA (mz Z)))), (pa, .inl (T 0, 690, .inl (zA (zlay (115 * rc_k kp) 115 (fun q => (mz Z) (0 + q)) F0_))))] := hD
    have hZ : (kp + 1 : Int) = rc_n kp := (by unfold rc_n; split <;> omega)
    have hP : va_P D vwCl [(mm, .inr (7, [.ref nw, .ref pa, .int (iz (rc_n kp)), .ref zl, .ref hd, .ref pd, .int (iz (pn)), .int (iz (at0)), .ref os, .int (iz (od)), .int (iz (dn)), .int (iz (pu)), .int (iz (lo2)), .int (iz (sp2)), .int (iz (lv2)), .int (iz (wa)), .ref mt, .ref cn])), (nw, .inl (T 0, 115, .inl (zA (mz Z)))), (pa, .inl (T 0, 690, .inl (zA (zlay (115 * rc_k kp) 115 (fun q => (mz Z) (0 + q)) F0_))))] H := by rw [← hZ]; exact hP
    have hD : va_D A [(mm, .inr (7, [.ref nw, .ref pa, .int (iz (rc_n kp)), .ref zl, .ref hd, .ref pd, .int (iz (pn)), .int (iz (at0)), .ref os, .int (iz (od)), .int (iz (dn)), .int (iz (pu)), .int (iz (lo2)), .int (iz (sp2)), .int (iz (lv2)), .int (iz (wa)), .ref mt, .ref cn])), (nw, .inl (T 0, 115, .inl (zA (mz Z)))), (pa, .inl (T 0, 690, .inl (zA (zlay (115 * rc_k kp) 115 (fun q => (mz Z) (0 + q)) F0_))))] := by rw [← hZ]; exact hD
    have hZ : (zlay (115 * rc_k kp) 115 (fun q => (mz Z) (0 + q)) F0_ : Nat → Int) = rc_F F0_ kp (mz Z) := (by unfold rc_F; simp only [Nat.zero_add]; split <;> first | rfl | omega)
    have hP : va_P D vwCl [(mm, .inr (7, [.ref nw, .ref pa, .int (iz (rc_n kp)), .ref zl, .ref hd, .ref pd, .int (iz (pn)), .int (iz (at0)), .ref os, .int (iz (od)), .int (iz (dn)), .int (iz (pu)), .int (iz (lo2)), .int (iz (sp2)), .int (iz (lv2)), .int (iz (wa)), .ref mt, .ref cn])), (nw, .inl (T 0, 115, .inl (zA (mz Z)))), (pa, .inl (T 0, 690, .inl (zA (rc_F F0_ kp (mz Z)))))] H := by rw [← hZ]; exact hP
    have hD : va_D A [(mm, .inr (7, [.ref nw, .ref pa, .int (iz (rc_n kp)), .ref zl, .ref hd, .ref pd, .int (iz (pn)), .int (iz (at0)), .ref os, .int (iz (od)), .int (iz (dn)), .int (iz (pu)), .int (iz (lo2)), .int (iz (sp2)), .int (iz (lv2)), .int (iz (wa)), .ref mt, .ref cn])), (nw, .inl (T 0, 115, .inl (zA (mz Z)))), (pa, .inl (T 0, 690, .inl (zA (rc_F F0_ kp (mz Z)))))] := by rw [← hZ]; exact hD
    exact W.vret hx hb hr (fun t ht hW => ⟨⟨(), rfl, trivial, by show va_P _ _ _ t.heap; rw [ht]; exact hP⟩, hS.F ht⟩) hS.2.2 dX7_records_78
  · refine lv_iconst (v := iz (0)) hx hb dX7_records_9 (by decide) ?_
    refine lv_istore_n (lv' := [(1, .int (iz (0))), (0, .ref mm)]) hx hb dX7_records_10 rfl hl (by decide) rfl (fun ls hl => ?_)
    have hl : lv_has ls 2 [(1, .int (iz (((0 : Nat) : Int)))), (0, .ref mm)] := by rw [← (show (0 : Int) = ((0 : Nat) : Int) from (by first | rfl | omega))]; exact hl
    have hZ : (F0_ : Nat → Int) = rcS F0_ 0 := (rcS_0 _)
    have hP : va_P D vwCl [(mm, .inr (7, [.ref nw, .ref pa, .int (iz (kp)), .ref zl, .ref hd, .ref pd, .int (iz (pn)), .int (iz (at0)), .ref os, .int (iz (od)), .int (iz (dn)), .int (iz (pu)), .int (iz (lo2)), .int (iz (sp2)), .int (iz (lv2)), .int (iz (wa)), .ref mt, .ref cn])), (nw, .inl (T 0, 115, .inl (zA (mz Z)))), (pa, .inl (T 0, 690, .inl (zA (rcS F0_ 0))))] s.heap := by rw [← hZ]; exact hP
    have hD : va_D A [(mm, .inr (7, [.ref nw, .ref pa, .int (iz (kp)), .ref zl, .ref hd, .ref pd, .int (iz (pn)), .int (iz (at0)), .ref os, .int (iz (od)), .int (iz (dn)), .int (iz (pu)), .int (iz (lo2)), .int (iz (sp2)), .int (iz (lv2)), .int (iz (wa)), .ref mt, .ref cn])), (nw, .inl (T 0, 115, .inl (zA (mz Z)))), (pa, .inl (T 0, 690, .inl (zA (rcS F0_ 0))))] := by rw [← hZ]; exact hD
    refine kz_loopW1 (pc := 11) (I := fun (n : Nat) (H : Heap) (locs : List Loc) (ls : Array Slot) => (n ≤ 575) ∧ va_P D vwCl [(mm, .inr (7, [.ref nw, .ref pa, .int (iz (kp)), .ref zl, .ref hd, .ref pd, .int (iz (pn)), .int (iz (at0)), .ref os, .int (iz (od)), .int (iz (dn)), .int (iz (pu)), .int (iz (lo2)), .int (iz (sp2)), .int (iz (lv2)), .int (iz (wa)), .ref mt, .ref cn])), (nw, .inl (T 0, 115, .inl (zA (mz Z)))), (pa, .inl (T 0, 690, .inl (zA (rcS F0_ n))))] H ∧ va_D A [(mm, .inr (7, [.ref nw, .ref pa, .int (iz (kp)), .ref zl, .ref hd, .ref pd, .int (iz (pn)), .int (iz (at0)), .ref os, .int (iz (od)), .int (iz (dn)), .int (iz (pu)), .int (iz (lo2)), .int (iz (sp2)), .int (iz (lv2)), .int (iz (wa)), .ref mt, .ref cn])), (nw, .inl (T 0, 115, .inl (zA (mz Z)))), (pa, .inl (T 0, 690, .inl (zA (rcS F0_ n))))] ∧ va_S A s.heap H locs ∧ lv_has ls 2 [(0, .ref mm), (1, .int (iz (((n : Nat) : Int))))]) (μ := fun (n : Nat) => 575 - n) 0 ⟨(by omega), hP, hD, hS, lv_sub hl [1, 0] rfl⟩ ?_
    rintro n H locs ls ⟨hn, hP, hD, hS, hl⟩ ih11
    refine lv_iload_n hx hb dX7_records_11 rfl (lv_at hl 1 rfl) ?_
    refine lv_sipush (v := iz (575)) hx hb dX7_records_12 (by decide) ?_
    refine kz_icmp_ge (tgt := 39) hx hb dX7_records_15 (by decide) (by omega) (by omega) (fun c15 => ?_) (fun c15 => ?_)
    · have hnn : n = 575 := by omega
      subst hnn
      have hl : lv_has ls 2 [(0, .ref mm), (1, .int (iz (((575 : Nat) : Int))))] := hl
      refine lv_aload_n hx hb dX7_records_39 rfl (lv_at hl 0 rfl) ?_
      refine lv_dup hx hb dX7_records_40 rfl ?_
      refine va_get (D := D) (ci := 7) (C := RX7) (T := TX7) (N := 18) hx hb hts w1 hown hK.1 hP 0 rfl rfl 2 (by decide) w0 (fun _ h9 => h9) rfl dX7_records_41 ?_
      refine lv_iconst (v := iz (1)) hx hb dX7_records_44 (by decide) ?_
      refine kz_sub hx hb dX7_records_45 ?_
      refine kz_top (y := 5) (by omega) ?_
      refine va_put (D := D) (ci := 7) (v := .int (iz (5))) (ty := .int) (C := RX7) (T := TX7) (N := 18) hx hb hts w1 tyX7 tyX7_ok nmX7 hown hK.1 hP hD hS 0 rfl rfl 2 (by decide) w0 (fun _ h9 => h9) rfl (by decide +kernel) rfl rfl (Nat.le_of_ble_eq_true rfl) dX7_records_46 (fun H locs hP hD hS => ?_)
      have hP : va_P D vwCl [(mm, .inr (7, [.ref nw, .ref pa, .int (iz (5)), .ref zl, .ref hd, .ref pd, .int (iz (pn)), .int (iz (at0)), .ref os, .int (iz (od)), .int (iz (dn)), .int (iz (pu)), .int (iz (lo2)), .int (iz (sp2)), .int (iz (lv2)), .int (iz (wa)), .ref mt, .ref cn])), (nw, .inl (T 0, 115, .inl (zA (mz Z)))), (pa, .inl (T 0, 690, .inl (zA (rcS F0_ 575))))] H := hP
      have hD : va_D A [(mm, .inr (7, [.ref nw, .ref pa, .int (iz (5)), .ref zl, .ref hd, .ref pd, .int (iz (pn)), .int (iz (at0)), .ref os, .int (iz (od)), .int (iz (dn)), .int (iz (pu)), .int (iz (lo2)), .int (iz (sp2)), .int (iz (lv2)), .int (iz (wa)), .ref mt, .ref cn])), (nw, .inl (T 0, 115, .inl (zA (mz Z)))), (pa, .inl (T 0, 690, .inl (zA (rcS F0_ 575))))] := hD
      refine lv_aload_n hx hb dX7_records_49 rfl (lv_at hl 0 rfl) ?_
      refine va_get (D := D) (ci := 7) (C := RX7) (T := TX7) (N := 18) hx hb hts w1 hown hK.1 hP 0 rfl rfl 0 (by decide) w2 (fun _ h9 => h9) rfl dX7_records_50 ?_
      refine lv_iconst (v := iz (0)) hx hb dX7_records_53 (by decide) ?_
      refine lv_aload_n hx hb dX7_records_54 rfl (lv_at hl 0 rfl) ?_
      refine va_get (D := D) (ci := 7) (C := RX7) (T := TX7) (N := 18) hx hb hts w1 hown hK.1 hP 0 rfl rfl 1 (by decide) w3 (fun _ h9 => h9) rfl dX7_records_55 ?_
      refine lv_bipush (v := iz (115)) hx hb dX7_records_58 (by decide) ?_
      refine lv_aload_n hx hb dX7_records_60 rfl (lv_at hl 0 rfl) ?_
      refine va_get (D := D) (ci := 7) (C := RX7) (T := TX7) (N := 18) hx hb hts w1 hown hK.1 hP 0 rfl rfl 2 (by decide) w0 (fun _ h9 => h9) rfl dX7_records_61 ?_
      refine kz_mul hx hb dX7_records_64 ?_
      refine kz_top (y := ((115 * rc_k kp : Nat) : Int)) (by unfold rc_k; split <;> omega) ?_
      refine kc_wv (va_runS (As := [.ref nw, .int (iz (0)), .ref pa, .int (iz (((115 * rc_k kp : Nat) : Int)))]) (rest := []) ⟨hx, hb, hml, hown, hts⟩ (c_X7_lays l D T H.size nw pa 115 690 0 (115 * rc_k kp) (mz Z) (rcS F0_ 575) (by omega) (by omega)) (va_cwS 4 hts gX7_records_X7_lays rfl rfl rfl (by decide +kernel) ⟨Nat.le_of_ble_eq_true rfl, Nat.le_of_ble_eq_true rfl⟩) (kPc.s hK (kW.cut hP hD [1, 2] rfl (by rfl))) rfl rfl hl.1 rfl (lv_room (Nat.le_of_ble_eq_true rfl)) dX7_records_65 ⟨Nat.zero_le _, Nat.zero_le _⟩) hP hD hS hA [1, 2] rfl (fun _ => rfl) (fun u H locs hr2 hP hD hS => ?_)
      have hP : va_P D vwCl [(mm, .inr (7, [.ref nw, .ref pa, .int (iz (5)), .ref zl, .ref hd, .ref pd, .int (iz (pn)), .int (iz (at0)), .ref os, .int (iz (od)), .int (iz (dn)), .int (iz (pu)), .int (iz (lo2)), .int (iz (sp2)), .int (iz (lv2)), .int (iz (wa)), .ref mt, .ref cn])), (nw, .inl (T 0, 115, .inl (zA (mz Z)))), (pa, .inl (T 0, 690, .inl (zA (zlay (115 * rc_k kp) 115 (fun q => (mz Z) (0 + q)) (rcS F0_ 575)))))] H := hP
      have hD : va_D A [(mm, .inr (7, [.ref nw, .ref pa, .int (iz (5)), .ref zl, .ref hd, .ref pd, .int (iz (pn)), .int (iz (at0)), .ref os, .int (iz (od)), .int (iz (dn)), .int (iz (pu)), .int (iz (lo2)), .int (iz (sp2)), .int (iz (lv2)), .int (iz (wa)), .ref mt, .ref cn])), (nw, .inl (T 0, 115, .inl (zA (mz Z)))), (pa, .inl (T 0, 690, .inl (zA (zlay (115 * rc_k kp) 115 (fun q => (mz Z) (0 + q)) (rcS F0_ 575)))))] := hD
      refine lv_aload_n hx hb dX7_records_68 rfl (lv_at hl 0 rfl) ?_
      refine lv_dup hx hb dX7_records_69 rfl ?_
      refine va_get (D := D) (ci := 7) (C := RX7) (T := TX7) (N := 18) hx hb hts w1 hown hK.1 hP 0 rfl rfl 2 (by decide) w0 (fun _ h9 => h9) rfl dX7_records_70 ?_
      refine lv_iconst (v := iz (1)) hx hb dX7_records_73 (by decide) ?_
      refine kz_add hx hb dX7_records_74 ?_
      refine va_put (D := D) (ci := 7) (v := .int (iz (5 + 1))) (ty := .int) (C := RX7) (T := TX7) (N := 18) hx hb hts w1 tyX7 tyX7_ok nmX7 hown hK.1 hP hD hS 0 rfl rfl 2 (by decide) w0 (fun _ h9 => h9) rfl (by decide +kernel) rfl rfl (Nat.le_of_ble_eq_true rfl) dX7_records_75 (fun H locs hP hD hS => ?_)
      have hP : va_P D vwCl [(mm, .inr (7, [.ref nw, .ref pa, .int (iz (5 + 1)), .ref zl, .ref hd, .ref pd, .int (iz (pn)), .int (iz (at0)), .ref os, .int (iz (od)), .int (iz (dn)), .int (iz (pu)), .int (iz (lo2)), .int (iz (sp2)), .int (iz (lv2)), .int (iz (wa)), .ref mt, .ref cn])), (nw, .inl (T 0, 115, .inl (zA (mz Z)))), (pa, .inl (T 0, 690, .inl (zA (zlay (115 * rc_k kp) 115 (fun q => (mz Z) (0 + q)) (rcS F0_ 575)))))] H := hP
      have hD : va_D A [(mm, .inr (7, [.ref nw, .ref pa, .int (iz (5 + 1)), .ref zl, .ref hd, .ref pd, .int (iz (pn)), .int (iz (at0)), .ref os, .int (iz (od)), .int (iz (dn)), .int (iz (pu)), .int (iz (lo2)), .int (iz (sp2)), .int (iz (lv2)), .int (iz (wa)), .ref mt, .ref cn])), (nw, .inl (T 0, 115, .inl (zA (mz Z)))), (pa, .inl (T 0, 690, .inl (zA (zlay (115 * rc_k kp) 115 (fun q => (mz Z) (0 + q)) (rcS F0_ 575)))))] := hD
      have hZ : (5 + 1 : Int) = rc_n kp := (by unfold rc_n; split <;> omega)
      have hP : va_P D vwCl [(mm, .inr (7, [.ref nw, .ref pa, .int (iz (rc_n kp)), .ref zl, .ref hd, .ref pd, .int (iz (pn)), .int (iz (at0)), .ref os, .int (iz (od)), .int (iz (dn)), .int (iz (pu)), .int (iz (lo2)), .int (iz (sp2)), .int (iz (lv2)), .int (iz (wa)), .ref mt, .ref cn])), (nw, .inl (T 0, 115, .inl (zA (mz Z)))), (pa, .inl (T 0, 690, .inl (zA (zlay (115 * rc_k kp) 115 (fun q => (mz Z) (0 + q)) (rcS F0_ 575)))))] H := by rw [← hZ]; exact hP
      have hD : va_D A [(mm, .inr (7, [.ref nw, .ref pa, .int (iz (rc_n kp)), .ref zl, .ref hd, .ref pd, .int (iz (pn)), .int (iz (at0)), .ref os, .int (iz (od)), .int (iz (dn)), .int (iz (pu)), .int (iz (lo2)), .int (iz (sp2)), .int (iz (lv2)), .int (iz (wa)), .ref mt, .ref cn])), (nw, .inl (T 0, 115, .inl (zA (mz Z)))), (pa, .inl (T 0, 690, .inl (zA (zlay (115 * rc_k kp) 115 (fun q => (mz Z) (0 + q)) (rcS F0_ 575)))))] := by rw [← hZ]; exact hD
      have hZ : (zlay (115 * rc_k kp) 115 (fun q => (mz Z) (0 + q)) (rcS F0_ 575) : Nat → Int) = rc_F F0_ kp (mz Z) := (by unfold rc_F; simp only [Nat.zero_add]; split <;> first | rfl | omega)
      have hP : va_P D vwCl [(mm, .inr (7, [.ref nw, .ref pa, .int (iz (rc_n kp)), .ref zl, .ref hd, .ref pd, .int (iz (pn)), .int (iz (at0)), .ref os, .int (iz (od)), .int (iz (dn)), .int (iz (pu)), .int (iz (lo2)), .int (iz (sp2)), .int (iz (lv2)), .int (iz (wa)), .ref mt, .ref cn])), (nw, .inl (T 0, 115, .inl (zA (mz Z)))), (pa, .inl (T 0, 690, .inl (zA (rc_F F0_ kp (mz Z)))))] H := by rw [← hZ]; exact hP
      have hD : va_D A [(mm, .inr (7, [.ref nw, .ref pa, .int (iz (rc_n kp)), .ref zl, .ref hd, .ref pd, .int (iz (pn)), .int (iz (at0)), .ref os, .int (iz (od)), .int (iz (dn)), .int (iz (pu)), .int (iz (lo2)), .int (iz (sp2)), .int (iz (lv2)), .int (iz (wa)), .ref mt, .ref cn])), (nw, .inl (T 0, 115, .inl (zA (mz Z)))), (pa, .inl (T 0, 690, .inl (zA (rc_F F0_ kp (mz Z)))))] := by rw [← hZ]; exact hD
      exact W.vret hx hb hr (fun t ht hW => ⟨⟨(), rfl, trivial, by show va_P _ _ _ t.heap; rw [ht]; exact hP⟩, hS.F ht⟩) hS.2.2 dX7_records_78
    · refine lv_aload_n hx hb dX7_records_18 rfl (lv_at hl 0 rfl) ?_
      refine va_get (D := D) (ci := 7) (C := RX7) (T := TX7) (N := 18) hx hb hts w1 hown hK.1 hP 0 rfl rfl 1 (by decide) w3 (fun _ h9 => h9) rfl dX7_records_19 ?_
      refine lv_iload_n hx hb dX7_records_22 rfl (lv_at hl 1 rfl) ?_
      refine lv_aload_n hx hb dX7_records_23 rfl (lv_at hl 0 rfl) ?_
      refine va_get (D := D) (ci := 7) (C := RX7) (T := TX7) (N := 18) hx hb hts w1 hown hK.1 hP 0 rfl rfl 1 (by decide) w3 (fun _ h9 => h9) rfl dX7_records_24 ?_
      refine lv_iload_n hx hb dX7_records_27 rfl (lv_at hl 1 rfl) ?_
      refine lv_bipush (v := iz (115)) hx hb dX7_records_28 (by decide) ?_
      refine kz_add hx hb dX7_records_30 ?_
      refine kz_iald hx hb hK hP (2) rfl (n + 115) (by omega) (by omega) (by omega) dX7_records_31 ?_
      refine kz_iast hx hb hK hP hD hS (2) rfl (n) (by omega) (by omega) (by omega) dX7_records_32 (fun H locs hP hD hS => ?_)
      have hP : va_P D vwCl [(mm, .inr (7, [.ref nw, .ref pa, .int (iz (kp)), .ref zl, .ref hd, .ref pd, .int (iz (pn)), .int (iz (at0)), .ref os, .int (iz (od)), .int (iz (dn)), .int (iz (pu)), .int (iz (lo2)), .int (iz (sp2)), .int (iz (lv2)), .int (iz (wa)), .ref mt, .ref cn])), (nw, .inl (T 0, 115, .inl (zA (mz Z)))), (pa, .inl (T 0, 690, .inl (zA (zup (rcS F0_ n) n ((rcS F0_ n) (n + 115))))))] H := hP
      have hD : va_D A [(mm, .inr (7, [.ref nw, .ref pa, .int (iz (kp)), .ref zl, .ref hd, .ref pd, .int (iz (pn)), .int (iz (at0)), .ref os, .int (iz (od)), .int (iz (dn)), .int (iz (pu)), .int (iz (lo2)), .int (iz (sp2)), .int (iz (lv2)), .int (iz (wa)), .ref mt, .ref cn])), (nw, .inl (T 0, 115, .inl (zA (mz Z)))), (pa, .inl (T 0, 690, .inl (zA (zup (rcS F0_ n) n ((rcS F0_ n) (n + 115))))))] := hD
      refine kz_iinc (b := ((n + 1 : Nat) : Int)) (lv' := [(1, .int (iz (((n + 1 : Nat) : Int)))), (0, .ref mm)]) hx hb dX7_records_33 hl (k := 1) rfl (by omega) (by decide) rfl (fun ls hl => ?_)
      refine lv_goto (tgt := 11) hx hb dX7_records_36 (by decide) ?_
      have hZ : (zup (rcS F0_ n) n ((rcS F0_ n) (n + 115)) : Nat → Int) = rcS F0_ (n + 1) := rcS_s
      have hP : va_P D vwCl [(mm, .inr (7, [.ref nw, .ref pa, .int (iz (kp)), .ref zl, .ref hd, .ref pd, .int (iz (pn)), .int (iz (at0)), .ref os, .int (iz (od)), .int (iz (dn)), .int (iz (pu)), .int (iz (lo2)), .int (iz (sp2)), .int (iz (lv2)), .int (iz (wa)), .ref mt, .ref cn])), (nw, .inl (T 0, 115, .inl (zA (mz Z)))), (pa, .inl (T 0, 690, .inl (zA (rcS F0_ (n + 1)))))] H := by rw [← hZ]; exact hP
      have hD : va_D A [(mm, .inr (7, [.ref nw, .ref pa, .int (iz (kp)), .ref zl, .ref hd, .ref pd, .int (iz (pn)), .int (iz (at0)), .ref os, .int (iz (od)), .int (iz (dn)), .int (iz (pu)), .int (iz (lo2)), .int (iz (sp2)), .int (iz (lv2)), .int (iz (wa)), .ref mt, .ref cn])), (nw, .inl (T 0, 115, .inl (zA (mz Z)))), (pa, .inl (T 0, 690, .inl (zA (rcS F0_ (n + 1)))))] := by rw [← hZ]; exact hD
      exact ih11 (n + 1) _ _ _ ⟨(by omega), hP, hD, hS, lv_sub hl [1, 0] rfl⟩ (by omega)
