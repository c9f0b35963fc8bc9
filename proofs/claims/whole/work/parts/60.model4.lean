set_option maxHeartbeats 4000000 in
set_option maxRecDepth 100000 in
theorem c_X7_missed (l : Launch) (D : va_G) (T : Nat → ClassId) (mm : Nat) (nw : Nat) (pa : Nat) (kp : Int) (zl : Nat) (hd : Nat) (pd : Nat) (pn : Int) (at0 : Int) (os : Nat) (od : Int) (dn : Int) (pu : Int) (lo2 : Int) (sp2 : Int) (lv2 : Int) (wa : Int) (mt : Nat) (cn : Nat) (Z : Nat → Int) (h : Nat) (hh24 : h < 24) (hV : VL Z) (hdn : 0 ≤ dn ∧ dn ≤ 30) : Met l yX7_missed wsX7_missed ({ frames := 2, cells := 0, slots := 0, locals := 44 }) (kPc D T [.ref mm, .int (iz (((h : Nat) : Int)))] (va_P D vwCl [(mm, .inr (7, [.ref nw, .ref pa, .int (iz (kp)), .ref zl, .ref hd, .ref pd, .int (iz (pn)), .int (iz (at0)), .ref os, .int (iz (od)), .int (iz (dn)), .int (iz (pu)), .int (iz (lo2)), .int (iz (sp2)), .int (iz (lv2)), .int (iz (wa)), .ref mt, .ref cn])), (nw, .inl (T 0, 115, .inl (zA (mz Z))))])) (vp_Si (fun r : Int32 => r = iz (lk_missed Z h dn))) 0 0 (fun _ => False) := by
  refine Met.ofW (cc := cX7_missed) (maxL := 4) (ret := (some .int)) (by decide) rfl ?_
  intro p e s m args below meth c s₁ B hml hv
  obtain ⟨rfl, hK, hP⟩ := hv
  have hx := B.exec
  have hb := B.bytes
  have hr := B.returns
  have hts := atoms_spec (ws := wsX7_missed) B.pre
  have hown : s.vm.findClass RX7 = some m.cls := findClass_of_methodNamed B.named
  have hlocks := B.notSynchronized
  have w0 := hts (.fieldLink RX7 7 "LakePlantModel" "now" "[I") (List.mem_of_getElem? (i := 1) rfl)
  have w1 : ∀ w ∈ wsX70, w ∈ wsX7_missed := by decide +kernel
  have hP : va_P D vwCl [(mm, .inr (7, [.ref nw, .ref pa, .int (iz (kp)), .ref zl, .ref hd, .ref pd, .int (iz (pn)), .int (iz (at0)), .ref os, .int (iz (od)), .int (iz (dn)), .int (iz (pu)), .int (iz (lo2)), .int (iz (sp2)), .int (iz (lv2)), .int (iz (wa)), .ref mt, .ref cn])), (nw, .inl (T 0, 115, .inl (zA (mz Z))))] s.heap := hP
  have hl := lv_entry ([.ref mm, .int (iz (((h : Nat) : Int)))]) (n := 4) (Nat.le_of_ble_eq_true rfl)
  rw [lg_entry_eq]
  generalize (lg_sl ([.ref mm, .int (iz (((h : Nat) : Int)))]) ++ List.replicate (4 - (lg_sl ([.ref mm, .int (iz (((h : Nat) : Int)))])).length) Slot.unset).toArray = ls at hl ⊢
  have hl : lv_has ls 4 [(0, .ref mm), (1, .int (iz (((h : Nat) : Int))))] := hl
  have hs := hV.1
  unfold VS at hs
  refine lv_iconst (v := iz (0)) hx hb dX7_missed_0 (by decide) ?_
  refine lv_istore_n (lv' := [(2, .int (iz (0))), (0, .ref mm), (1, .int (iz (((h : Nat) : Int))))]) hx hb dX7_missed_1 rfl hl (by decide) rfl (fun ls hl => ?_)
  refine lv_iconst (v := iz (0)) hx hb dX7_missed_2 (by decide) ?_
  refine lv_istore_n (lv' := [(3, .int (iz (0))), (2, .int (iz (0))), (0, .ref mm), (1, .int (iz (((h : Nat) : Int))))]) hx hb dX7_missed_3 rfl hl (by decide) rfl (fun ls hl => ?_)
  have hl : lv_has ls 4 [(3, .int (iz (0))), (2, .int (iz (lk_miss Z h dn 0))), (0, .ref mm), (1, .int (iz (((h : Nat) : Int))))] := by rw [← (show (0 : Int) = lk_miss Z h dn 0 from rfl)]; exact hl
  have hl : lv_has ls 4 [(3, .int (iz (((0 : Nat) : Int)))), (2, .int (iz (lk_miss Z h dn 0))), (0, .ref mm), (1, .int (iz (((h : Nat) : Int))))] := by rw [← (show (0 : Int) = ((0 : Nat) : Int) from (by first | rfl | omega))]; exact hl
  refine kz_loopR1 (pc := 4) (I := fun (n : Nat) (ls : Array Slot) => ((n : Int) ≤ Z 114) ∧ lv_has ls 4 [(0, .ref mm), (1, .int (iz (((h : Nat) : Int)))), (2, .int (iz (lk_miss Z h dn n))), (3, .int (iz (((n : Nat) : Int))))]) (μ := fun (n : Nat) => 8 - n) 0 ⟨(by omega), lv_sub hl [2, 3, 1, 0] rfl⟩ ?_
  rintro n ls ⟨hn, hl⟩ ih4
  have hms := lk_miss_rng (Z := Z) h dn n
  refine lv_iload_n hx hb dX7_missed_4 rfl (lv_at hl 3 rfl) ?_
  refine lv_aload_n hx hb dX7_missed_5 rfl (lv_at hl 0 rfl) ?_
  refine va_get (D := D) (ci := 7) (C := RX7) (T := TX7) (N := 18) hx hb hts w1 hown hK.1 hP 0 rfl rfl 0 (by decide) w0 (fun _ h9 => h9) rfl dX7_missed_6 ?_
  refine lv_bipush (v := iz (82)) hx hb dX7_missed_9 (by decide) ?_
  refine kz_iald hx hb hK hP (1) rfl (82) (by omega) (by omega) (by omega) dX7_missed_11 ?_
  refine kz_top (y := Z 114) (mz_82 _) ?_
  refine kz_icmp_ge (tgt := 38) hx hb dX7_missed_12 (by decide) (by omega) (by omega) (fun c12 => ?_) (fun c12 => ?_)
  · have hnn : (Z 114).toNat = n := by omega
    refine lv_iload_n hx hb dX7_missed_38 rfl (lv_at hl 2 rfl) ?_
    exact W.iret hx hb hr (fun t ht _ => ⟨_, rfl, (congrArg iz (by unfold lk_missed; rw [hnn])), ht⟩) (fun _ h => absurd h List.not_mem_nil) dX7_missed_39
  · refine lv_iload_n hx hb dX7_missed_15 rfl (lv_at hl 2 rfl) ?_
    refine lv_aload_n hx hb dX7_missed_16 rfl (lv_at hl 0 rfl) ?_
    refine lv_iload_n hx hb dX7_missed_17 rfl (lv_at hl 3 rfl) ?_
    refine lv_iload_n hx hb dX7_missed_18 rfl (lv_at hl 1 rfl) ?_
    refine kc_i (va_runV (As := [.int (iz (((n : Nat) : Int))), .int (iz (((h : Nat) : Int)))]) (rest := [.int (iz (lk_miss Z h dn n))]) ⟨hx, hb, hml, hown, hts⟩ (c_X7_isMissed l D T mm nw pa kp zl hd pd pn at0 os od dn pu lo2 sp2 lv2 wa mt cn Z n (by omega) h (by omega) hV (by omega)) (cwV 2 hts gX7_missed_X7_isMissed rfl rfl rfl (by decide +kernel) ⟨Nat.le_of_ble_eq_true rfl, Nat.le_of_ble_eq_true rfl⟩) (kPc.v hK (va_recv hK.1 hP (ci := 7) (q0 := 0) rfl rfl) (kcut hP [0, 1] rfl)) rfl rfl hl.1 rfl (lv_room (Nat.le_of_ble_eq_true rfl)) dX7_missed_19 ⟨Nat.zero_le _, Nat.zero_le _⟩) (fun r1 hr1 => ?_)
    subst hr1
    refine kz_if_eq (tgt := 29) hx hb dX7_missed_22 (by decide) (by omega) (fun c22 => ?_) (fun c22 => ?_)
    · have hms2 : lk_miss Z h dn (n + 1) = lk_miss Z h dn n + 0 := by show lk_miss Z h dn n + _ = _; rw [if_neg (by split at c22 <;> omega)]
      refine lv_iconst (v := iz (0)) hx hb dX7_missed_29 (by decide) ?_
      refine kz_add hx hb dX7_missed_30 ?_
      refine lv_istore_n (lv' := [(2, .int (iz ((lk_miss Z h dn n) + 0))), (0, .ref mm), (1, .int (iz (((h : Nat) : Int)))), (3, .int (iz (((n : Nat) : Int))))]) hx hb dX7_missed_31 rfl hl (by decide) rfl (fun ls hl => ?_)
      refine kz_iinc (b := ((n + 1 : Nat) : Int)) (lv' := [(3, .int (iz (((n + 1 : Nat) : Int)))), (2, .int (iz ((lk_miss Z h dn n) + 0))), (0, .ref mm), (1, .int (iz (((h : Nat) : Int))))]) hx hb dX7_missed_32 hl (k := 3) rfl (by omega) (by decide) rfl (fun ls hl => ?_)
      refine lv_goto (tgt := 4) hx hb dX7_missed_35 (by decide) ?_
      have hl : lv_has ls 4 [(3, .int (iz (((n + 1 : Nat) : Int)))), (2, .int (iz (lk_miss Z h dn (n + 1)))), (0, .ref mm), (1, .int (iz (((h : Nat) : Int))))] := by rw [← (show ((lk_miss Z h dn n) + 0 : Int) = lk_miss Z h dn (n + 1) from (by rw [hms2]))]; exact hl
      exact ih4 (n + 1) _ ⟨(by omega), lv_sub hl [2, 3, 1, 0] rfl⟩ (by omega)
    · have hms2 : lk_miss Z h dn (n + 1) = lk_miss Z h dn n + 1 := by show lk_miss Z h dn n + _ = _; rw [if_pos (by split at c22 <;> omega)]
      refine lv_iconst (v := iz (1)) hx hb dX7_missed_25 (by decide) ?_
      refine lv_goto (tgt := 30) hx hb dX7_missed_26 (by decide) ?_
      refine kz_add hx hb dX7_missed_30 ?_
      refine lv_istore_n (lv' := [(2, .int (iz ((lk_miss Z h dn n) + 1))), (0, .ref mm), (1, .int (iz (((h : Nat) : Int)))), (3, .int (iz (((n : Nat) : Int))))]) hx hb dX7_missed_31 rfl hl (by decide) rfl (fun ls hl => ?_)
      refine kz_iinc (b := ((n + 1 : Nat) : Int)) (lv' := [(3, .int (iz (((n + 1 : Nat) : Int)))), (2, .int (iz ((lk_miss Z h dn n) + 1))), (0, .ref mm), (1, .int (iz (((h : Nat) : Int))))]) hx hb dX7_missed_32 hl (k := 3) rfl (by omega) (by decide) rfl (fun ls hl => ?_)
      refine lv_goto (tgt := 4) hx hb dX7_missed_35 (by decide) ?_
      have hl : lv_has ls 4 [(3, .int (iz (((n + 1 : Nat) : Int)))), (2, .int (iz (lk_miss Z h dn (n + 1)))), (0, .ref mm), (1, .int (iz (((h : Nat) : Int))))] := by rw [← (show ((lk_miss Z h dn n) + 1 : Int) = lk_miss Z h dn (n + 1) from (by rw [hms2]))]; exact hl
      exact ih4 (n + 1) _ ⟨(by omega), lv_sub hl [2, 3, 1, 0] rfl⟩ (by omega)
set_option maxHeartbeats 4000000 in
set_option maxRecDepth 100000 in
theorem c_X7_trouble (l : Launch) (D : va_G) (T : Nat → ClassId) (mm : Nat) (nw : Nat) (pa : Nat) (kp : Int) (zl : Nat) (hd : Nat) (pd : Nat) (pn : Int) (at0 : Int) (os : Nat) (od : Int) (dn : Int) (pu : Int) (lo2 : Int) (sp2 : Int) (lv2 : Int) (wa : Int) (mt : Nat) (cn : Nat) (Z : Nat → Int) (h : Nat) (hh24 : h < 24) (hV : VL Z) (hdn : 0 ≤ dn ∧ dn ≤ 30) (hwa : 0 ≤ wa ∧ wa ≤ 30) (hsp2 : 0 ≤ sp2 ∧ sp2 ≤ 20000) : Met l yX7_trouble wsX7_trouble ({ frames := 3, cells := 0, slots := 0, locals := 67 }) (kPc D T [.ref mm, .int (iz (((h : Nat) : Int)))] (va_P D vwCl [(mm, .inr (7, [.ref nw, .ref pa, .int (iz (kp)), .ref zl, .ref hd, .ref pd, .int (iz (pn)), .int (iz (at0)), .ref os, .int (iz (od)), .int (iz (dn)), .int (iz (pu)), .int (iz (lo2)), .int (iz (sp2)), .int (iz (lv2)), .int (iz (wa)), .ref mt, .ref cn])), (nw, .inl (T 0, 115, .inl (zA (mz Z))))])) (vp_Si (fun r : Int32 => r = iz (lk_tr Z h dn wa sp2))) 0 0 (fun _ => False) := by
  refine Met.ofW (cc := cX7_trouble) (maxL := 2) (ret := (some .int)) (by decide) rfl ?_
  intro p e s m args below meth c s₁ B hml hv
  obtain ⟨rfl, hK, hP⟩ := hv
  have hx := B.exec
  have hb := B.bytes
  have hr := B.returns
  have hts := atoms_spec (ws := wsX7_trouble) B.pre
  have hown : s.vm.findClass RX7 = some m.cls := findClass_of_methodNamed B.named
  have hlocks := B.notSynchronized
  have w0 := hts (.fieldLink RX7 66 "LakePlantModel" "down" "I") (List.mem_of_getElem? (i := 1) rfl)
  have w1 : ∀ w ∈ wsX70, w ∈ wsX7_trouble := by decide +kernel
  have w2 := hts (.fieldLink RX7 7 "LakePlantModel" "now" "[I") (List.mem_of_getElem? (i := 2) rfl)
  have w3 := hts (.fieldLink RX7 63 "LakePlantModel" "wanted" "I") (List.mem_of_getElem? (i := 3) rfl)
  have w4 := hts (.fieldLink RX7 69 "LakePlantModel" "spilled" "I") (List.mem_of_getElem? (i := 4) rfl)
  have hP : va_P D vwCl [(mm, .inr (7, [.ref nw, .ref pa, .int (iz (kp)), .ref zl, .ref hd, .ref pd, .int (iz (pn)), .int (iz (at0)), .ref os, .int (iz (od)), .int (iz (dn)), .int (iz (pu)), .int (iz (lo2)), .int (iz (sp2)), .int (iz (lv2)), .int (iz (wa)), .ref mt, .ref cn])), (nw, .inl (T 0, 115, .inl (zA (mz Z))))] s.heap := hP
  have hl := lv_entry ([.ref mm, .int (iz (((h : Nat) : Int)))]) (n := 2) (Nat.le_of_ble_eq_true rfl)
  rw [lg_entry_eq]
  generalize (lg_sl ([.ref mm, .int (iz (((h : Nat) : Int)))]) ++ List.replicate (2 - (lg_sl ([.ref mm, .int (iz (((h : Nat) : Int)))])).length) Slot.unset).toArray = ls at hl ⊢
  have hl : lv_has ls 2 [(0, .ref mm), (1, .int (iz (((h : Nat) : Int))))] := hl
  have hs := hV.1
  unfold VS at hs
  have hmr := lk_miss_rng (Z := Z) h dn (Z 114).toNat
  have hme : lk_missed Z h dn = lk_miss Z h dn (Z 114).toNat := rfl
  refine lv_aload_n hx hb dX7_trouble_0 rfl (lv_at hl 0 rfl) ?_
  refine va_get (D := D) (ci := 7) (C := RX7) (T := TX7) (N := 18) hx hb hts w1 hown hK.1 hP 0 rfl rfl 10 (by decide) w0 (fun _ h9 => h9) rfl dX7_trouble_1 ?_
  refine lv_aload_n hx hb dX7_trouble_4 rfl (lv_at hl 0 rfl) ?_
  refine va_get (D := D) (ci := 7) (C := RX7) (T := TX7) (N := 18) hx hb hts w1 hown hK.1 hP 0 rfl rfl 0 (by decide) w2 (fun _ h9 => h9) rfl dX7_trouble_5 ?_
  refine lv_iconst (v := iz (4)) hx hb dX7_trouble_8 (by decide) ?_
  refine kz_iald hx hb hK hP (1) rfl (4) (by omega) (by omega) (by omega) dX7_trouble_9 ?_
  refine kz_top (y := Z 4) (mz_lo (by omega)) ?_
  refine kz_icmp_ge (tgt := 15) hx hb dX7_trouble_10 (by decide) (by omega) (by omega) (fun c10 => ?_) (fun c10 => ?_)
  · refine lv_aload_n hx hb dX7_trouble_15 rfl (lv_at hl 0 rfl) ?_
    refine va_get (D := D) (ci := 7) (C := RX7) (T := TX7) (N := 18) hx hb hts w1 hown hK.1 hP 0 rfl rfl 10 (by decide) w0 (fun _ h9 => h9) rfl dX7_trouble_16 ?_
    refine lv_aload_n hx hb dX7_trouble_19 rfl (lv_at hl 0 rfl) ?_
    refine va_get (D := D) (ci := 7) (C := RX7) (T := TX7) (N := 18) hx hb hts w1 hown hK.1 hP 0 rfl rfl 15 (by decide) w3 (fun _ h9 => h9) rfl dX7_trouble_20 ?_
    refine kz_icmp_ge (tgt := 30) hx hb dX7_trouble_23 (by decide) (by omega) (by omega) (fun c23 => ?_) (fun c23 => ?_)
    · refine lv_aload_n hx hb dX7_trouble_30 rfl (lv_at hl 0 rfl) ?_
      refine lv_iload_n hx hb dX7_trouble_31 rfl (lv_at hl 1 rfl) ?_
      refine kc_i (va_runV (As := [.int (iz (((h : Nat) : Int)))]) (rest := []) ⟨hx, hb, hml, hown, hts⟩ (c_X7_missed l D T mm nw pa kp zl hd pd pn at0 os od dn pu lo2 sp2 lv2 wa mt cn Z h (by omega) hV (by omega)) (cwV 1 hts gX7_trouble_X7_missed rfl rfl rfl (by decide +kernel) ⟨Nat.le_of_ble_eq_true rfl, Nat.le_of_ble_eq_true rfl⟩) (kPc.v hK (va_recv hK.1 hP (ci := 7) (q0 := 0) rfl rfl) (kcut hP [0, 1] rfl)) rfl rfl hl.1 rfl (lv_room (Nat.le_of_ble_eq_true rfl)) dX7_trouble_32 ⟨Nat.zero_le _, Nat.zero_le _⟩) (fun r1 hr1 => ?_)
      subst hr1
      refine kz_if_le (tgt := 42) hx hb dX7_trouble_35 (by decide) (by omega) (fun c35 => ?_) (fun c35 => ?_)
      · refine lv_aload_n hx hb dX7_trouble_42 rfl (lv_at hl 0 rfl) ?_
        refine va_get (D := D) (ci := 7) (C := RX7) (T := TX7) (N := 18) hx hb hts w1 hown hK.1 hP 0 rfl rfl 13 (by decide) w4 (fun _ h9 => h9) rfl dX7_trouble_43 ?_
        refine kz_if_le (tgt := 53) hx hb dX7_trouble_46 (by decide) (by omega) (fun c46 => ?_) (fun c46 => ?_)
        · refine lv_iconst (v := iz (0)) hx hb dX7_trouble_53 (by decide) ?_
          exact W.iret hx hb hr (fun t ht _ => ⟨_, rfl, (congrArg iz (by unfold lk_tr; (repeat' split) <;> omega)), ht⟩) (fun _ h => absurd h List.not_mem_nil) dX7_trouble_54
        · refine lv_iconst (v := iz (4)) hx hb dX7_trouble_49 (by decide) ?_
          refine lv_goto (tgt := 54) hx hb dX7_trouble_50 (by decide) ?_
          exact W.iret hx hb hr (fun t ht _ => ⟨_, rfl, (congrArg iz (by unfold lk_tr; (repeat' split) <;> omega)), ht⟩) (fun _ h => absurd h List.not_mem_nil) dX7_trouble_54
      · refine lv_iconst (v := iz (3)) hx hb dX7_trouble_38 (by decide) ?_
        refine lv_goto (tgt := 54) hx hb dX7_trouble_39 (by decide) ?_
        exact W.iret hx hb hr (fun t ht _ => ⟨_, rfl, (congrArg iz (by unfold lk_tr; (repeat' split) <;> omega)), ht⟩) (fun _ h => absurd h List.not_mem_nil) dX7_trouble_54
    · refine lv_iconst (v := iz (2)) hx hb dX7_trouble_26 (by decide) ?_
      refine lv_goto (tgt := 54) hx hb dX7_trouble_27 (by decide) ?_
      exact W.iret hx hb hr (fun t ht _ => ⟨_, rfl, (congrArg iz (by unfold lk_tr; (repeat' split) <;> omega)), ht⟩) (fun _ h => absurd h List.not_mem_nil) dX7_trouble_54
  · refine lv_iconst (v := iz (1)) hx hb dX7_trouble_13 (by decide) ?_
    exact W.iret hx hb hr (fun t ht _ => ⟨_, rfl, (congrArg iz (by unfold lk_tr; rw [if_pos (by omega)])), ht⟩) (fun _ h => absurd h List.not_mem_nil) dX7_trouble_14
set_option maxHeartbeats 4000000 in
set_option maxRecDepth 100000 in
theorem c_X7_goesTo (l : Launch) (D : va_G) (T : Nat → ClassId) (sz : Nat) (mm : Nat) (nw : Nat) (pa : Nat) (kp : Int) (zl : Nat) (hd : Nat) (pd : Nat) (pn : Int) (at0 : Int) (os : Nat) (od : Int) (dn : Int) (pu : Int) (lo2 : Int) (sp2 : Int) (lv2 : Int) (wa : Int) (mt : Nat) (cn : Nat) (Z : Nat → Int) (h : Nat) (hh24 : h < 24) (hV : VL Z) : Met l yX7_goesTo wsX7_goesTo ({ frames := 1, cells := 0, slots := 0, locals := 24 }) (kPc D T [.ref mm, .int (iz (((h : Nat) : Int)))] (kW D sz [(mm, .inr (7, [.ref nw, .ref pa, .int (iz (kp)), .ref zl, .ref hd, .ref pd, .int (iz (pn)), .int (iz (at0)), .ref os, .int (iz (od)), .int (iz (dn)), .int (iz (pu)), .int (iz (lo2)), .int (iz (sp2)), .int (iz (lv2)), .int (iz (wa)), .ref mt, .ref cn])), (nw, .inl (T 0, 115, .inl (zA (mz Z))))])) (va_Qi (fun (r : Int32) (u : Unit) => r = iz (dy_ls Z h)) (fun (u : Unit) (t : State) => va_P D vwCl [(mm, .inr (7, [.ref nw, .ref pa, .int (iz (kp)), .ref zl, .ref hd, .ref pd, .int (iz (pn)), .int (iz (at0)), .ref os, .int (iz (od)), .int (iz (dy_dn Z h)), .int (iz (dy_pu Z h)), .int (iz (dy_lo Z h)), .int (iz (dy_sp Z h)), .int (iz (dy_le Z h)), .int (iz (lk_want Z (Z (58 + h)))), .ref mt, .ref cn])), (nw, .inl (T 0, 115, .inl (zA (mz Z))))] t.heap) (va_A [(mm, .inr (7, [.ref nw, .ref pa, .int (iz (kp)), .ref zl, .ref hd, .ref pd, .int (iz (pn)), .int (iz (at0)), .ref os, .int (iz (od)), .int (iz (dn)), .int (iz (pu)), .int (iz (lo2)), .int (iz (sp2)), .int (iz (lv2)), .int (iz (wa)), .ref mt, .ref cn])), (nw, .inl (T 0, 115, .inl (zA (mz Z))))] sz)) 0 0 (va_A [(mm, .inr (7, [.ref nw, .ref pa, .int (iz (kp)), .ref zl, .ref hd, .ref pd, .int (iz (pn)), .int (iz (at0)), .ref os, .int (iz (od)), .int (iz (dn)), .int (iz (pu)), .int (iz (lo2)), .int (iz (sp2)), .int (iz (lv2)), .int (iz (wa)), .ref mt, .ref cn])), (nw, .inl (T 0, 115, .inl (zA (mz Z))))] sz) := by
  refine Met.ofW (cc := cX7_goesTo) (maxL := 4) (ret := (some .int)) (by decide) rfl ?_
  intro p e s m args below meth c s₁ B hml hv
  obtain ⟨rfl, hK, hsz, hP, hD0⟩ := hv
  have hx := B.exec
  have hb := B.bytes
  have hr := B.returns
  have hts := atoms_spec (ws := wsX7_goesTo) B.pre
  have hown : s.vm.findClass RX7 = some m.cls := findClass_of_methodNamed B.named
  have hlocks := B.notSynchronized
  have w0 := hts (.fieldLink RX7 7 "LakePlantModel" "now" "[I") (List.mem_of_getElem? (i := 1) rfl)
  have w1 : ∀ w ∈ wsX70, w ∈ wsX7_goesTo := by decide +kernel
  have w2 := hts (.fieldLink RX7 60 "LakePlantModel" "level" "I") (List.mem_of_getElem? (i := 2) rfl)
  have w3 := hts (.fieldLink RX7 69 "LakePlantModel" "spilled" "I") (List.mem_of_getElem? (i := 3) rfl)
  subst hsz
  have hD := hD0.self (sz := s.heap.size)
  generalize hAe : va_A [(mm, .inr (7, [.ref nw, .ref pa, .int (iz (kp)), .ref zl, .ref hd, .ref pd, .int (iz (pn)), .int (iz (at0)), .ref os, .int (iz (od)), .int (iz (dn)), .int (iz (pu)), .int (iz (lo2)), .int (iz (sp2)), .int (iz (lv2)), .int (iz (wa)), .ref mt, .ref cn])), (nw, .inl (T 0, 115, .inl (zA (mz Z))))] s.heap.size = A at hD ⊢
  have hA : ∀ q : Nat, s.heap.size ≤ q → A q := fun q h => by rw [← hAe]; exact Or.inr h
  have hS : va_S A s.heap s.heap [] := va_S.rf
  have hP : va_P D vwCl [(mm, .inr (7, [.ref nw, .ref pa, .int (iz (kp)), .ref zl, .ref hd, .ref pd, .int (iz (pn)), .int (iz (at0)), .ref os, .int (iz (od)), .int (iz (dn)), .int (iz (pu)), .int (iz (lo2)), .int (iz (sp2)), .int (iz (lv2)), .int (iz (wa)), .ref mt, .ref cn])), (nw, .inl (T 0, 115, .inl (zA (mz Z))))] s.heap := hP
  have hl := lv_entry ([.ref mm, .int (iz (((h : Nat) : Int)))]) (n := 4) (Nat.le_of_ble_eq_true rfl)
  rw [lg_entry_eq]
  generalize (lg_sl ([.ref mm, .int (iz (((h : Nat) : Int)))]) ++ List.replicate (4 - (lg_sl ([.ref mm, .int (iz (((h : Nat) : Int)))])).length) Slot.unset).toArray = ls at hl ⊢
  have hl : lv_has ls 4 [(0, .ref mm), (1, .int (iz (((h : Nat) : Int))))] := hl
  have hs := hV.1
  unfold VS at hs
  refine lv_bipush (v := iz (-6)) hx hb dX7_goesTo_0 (by decide) ?_
  refine lv_istore_n (lv' := [(2, .int (iz ((-6)))), (0, .ref mm), (1, .int (iz (((h : Nat) : Int))))]) hx hb dX7_goesTo_2 rfl hl (by decide) rfl (fun ls hl => ?_)
  refine lv_aload_n hx hb dX7_goesTo_3 rfl (lv_at hl 1 rfl) ?_
  refine lv_aload_n hx hb dX7_goesTo_4 rfl (lv_at hl 1 rfl) ?_
  refine va_get (D := D) (ci := 7) (C := RX7) (T := TX7) (N := 18) hx hb hts w1 hown hK.1 hP 0 rfl rfl 0 (by decide) w0 (fun _ h9 => h9) rfl dX7_goesTo_5 ?_
  refine lv_bipush (v := iz (7)) hx hb dX7_goesTo_8 (by decide) ?_
  refine kz_iald hx hb hK hP (1) rfl (7) (by omega) (by omega) (by omega) dX7_goesTo_10 ?_
  refine kz_top (y := Z 7) (mz_lo (by omega)) ?_
  refine va_put (D := D) (ci := 7) (v := .int (iz (Z 7))) (ty := .int) (C := RX7) (T := TX7) (N := 18) hx hb hts w1 tyX7 tyX7_ok nmX7 hown hK.1 hP hD hS 0 rfl rfl 14 (by decide) w2 (fun _ h9 => h9) rfl (by decide +kernel) rfl rfl (Nat.le_of_ble_eq_true rfl) dX7_goesTo_11 (fun H locs hP hD hS => ?_)
  have hP : va_P D vwCl [(mm, .inr (7, [.ref nw, .ref pa, .int (iz (kp)), .ref zl, .ref hd, .ref pd, .int (iz (pn)), .int (iz (at0)), .ref os, .int (iz (od)), .int (iz (dn)), .int (iz (pu)), .int (iz (lo2)), .int (iz (sp2)), .int (iz (Z 7)), .int (iz (wa)), .ref mt, .ref cn])), (nw, .inl (T 0, 115, .inl (zA (mz Z))))] H := hP
  have hD : va_D A [(mm, .inr (7, [.ref nw, .ref pa, .int (iz (kp)), .ref zl, .ref hd, .ref pd, .int (iz (pn)), .int (iz (at0)), .ref os, .int (iz (od)), .int (iz (dn)), .int (iz (pu)), .int (iz (lo2)), .int (iz (sp2)), .int (iz (Z 7)), .int (iz (wa)), .ref mt, .ref cn])), (nw, .inl (T 0, 115, .inl (zA (mz Z))))] := hD
  refine lv_iconst (v := iz (0)) hx hb dX7_goesTo_14 (by decide) ?_
  refine lv_istore_n (lv' := [(3, .int (iz (0))), (2, .int (iz ((-6)))), (0, .ref mm), (1, .int (iz (((h : Nat) : Int))))]) hx hb dX7_goesTo_15 rfl hl (by decide) rfl (fun ls hl => ?_)
  have hl : lv_has ls 4 [(3, .int (iz (0))), (2, .int (iz (if 0 = 0 then -6 else dy_ls Z (0 - 1)))), (0, .ref mm), (1, .int (iz (((h : Nat) : Int))))] := by rw [← (show ((-6) : Int) = if 0 = 0 then -6 else dy_ls Z (0 - 1) from rfl)]; exact hl
  have hl : lv_has ls 4 [(3, .int (iz (((0 : Nat) : Int)))), (2, .int (iz (if 0 = 0 then -6 else dy_ls Z (0 - 1)))), (0, .ref mm), (1, .int (iz (((h : Nat) : Int))))] := by rw [← (show (0 : Int) = ((0 : Nat) : Int) from (by first | rfl | omega))]; exact hl
  have hZ : (Z 7 : Int) = dy_lev Z 0 := (by first | rfl | omega)
  have hP : va_P D vwCl [(mm, .inr (7, [.ref nw, .ref pa, .int (iz (kp)), .ref zl, .ref hd, .ref pd, .int (iz (pn)), .int (iz (at0)), .ref os, .int (iz (od)), .int (iz (dn)), .int (iz (pu)), .int (iz (lo2)), .int (iz (sp2)), .int (iz (dy_lev Z 0)), .int (iz (wa)), .ref mt, .ref cn])), (nw, .inl (T 0, 115, .inl (zA (mz Z))))] H := by rw [← hZ]; exact hP
  have hD : va_D A [(mm, .inr (7, [.ref nw, .ref pa, .int (iz (kp)), .ref zl, .ref hd, .ref pd, .int (iz (pn)), .int (iz (at0)), .ref os, .int (iz (od)), .int (iz (dn)), .int (iz (pu)), .int (iz (lo2)), .int (iz (sp2)), .int (iz (dy_lev Z 0)), .int (iz (wa)), .ref mt, .ref cn])), (nw, .inl (T 0, 115, .inl (zA (mz Z))))] := by rw [← hZ]; exact hD
  refine kz_loopW6 (pc := 16) (I := fun (n : Nat) (x1 : Int) (x2 : Int) (x3 : Int) (x4 : Int) (x5 : Int) (H : Heap) (locs : List Loc) (ls : Array Slot) => (n ≤ h + 1) ∧ (0 < n → x1 = dy_dn Z (n - 1) ∧ x2 = dy_pu Z (n - 1) ∧ x3 = dy_lo Z (n - 1) ∧ x4 = dy_sp Z (n - 1) ∧ x5 = lk_want Z (Z (58 + (n - 1)))) ∧ va_P D vwCl [(mm, .inr (7, [.ref nw, .ref pa, .int (iz (kp)), .ref zl, .ref hd, .ref pd, .int (iz (pn)), .int (iz (at0)), .ref os, .int (iz (od)), .int (iz (x1)), .int (iz (x2)), .int (iz (x3)), .int (iz (x4)), .int (iz (dy_lev Z n)), .int (iz (x5)), .ref mt, .ref cn])), (nw, .inl (T 0, 115, .inl (zA (mz Z))))] H ∧ va_D A [(mm, .inr (7, [.ref nw, .ref pa, .int (iz (kp)), .ref zl, .ref hd, .ref pd, .int (iz (pn)), .int (iz (at0)), .ref os, .int (iz (od)), .int (iz (x1)), .int (iz (x2)), .int (iz (x3)), .int (iz (x4)), .int (iz (dy_lev Z n)), .int (iz (x5)), .ref mt, .ref cn])), (nw, .inl (T 0, 115, .inl (zA (mz Z))))] ∧ va_S A s.heap H locs ∧ lv_has ls 4 [(0, .ref mm), (1, .int (iz (((h : Nat) : Int)))), (2, .int (iz (if n = 0 then -6 else dy_ls Z (n - 1)))), (3, .int (iz (((n : Nat) : Int))))]) (μ := fun (n : Nat) (x1 : Int) (x2 : Int) (x3 : Int) (x4 : Int) (x5 : Int) => h + 1 - n) 0 dn pu lo2 sp2 wa ⟨(by omega), (fun q => absurd q (Nat.lt_irrefl 0)), hP, hD, hS, lv_sub hl [2, 3, 1, 0] rfl⟩ ?_
  rintro n x1 x2 x3 x4 x5 H locs ls ⟨hn, hfx, hP, hD, hS, hl⟩ ih16
  have hls := dy_ls_e Z n
  refine lv_iload_n hx hb dX7_goesTo_16 rfl (lv_at hl 3 rfl) ?_
  refine lv_iload_n hx hb dX7_goesTo_17 rfl (lv_at hl 1 rfl) ?_
  refine kz_icmp_gt (tgt := 64) hx hb dX7_goesTo_18 (by decide) (by omega) (by omega) (fun c18 => ?_) (fun c18 => ?_)
  · have hnn : n = h + 1 := by omega
    subst hnn
    have hl : lv_has ls 4 [(0, .ref mm), (1, .int (iz (((h : Nat) : Int)))), (2, .int (iz (if (h + 1) = 0 then -6 else dy_ls Z ((h + 1) - 1)))), (3, .int (iz (((h + 1 : Nat) : Int))))] := hl
    obtain ⟨e1, e2, e3, e4, e5⟩ := hfx (by omega)
    refine lv_iload_n hx hb dX7_goesTo_64 rfl (lv_at hl 2 rfl) ?_
    have hZ : (x1 : Int) = dy_dn Z h := (by first | rfl | (rw [Nat.add_sub_cancel] at *; assumption))
    have hP : va_P D vwCl [(mm, .inr (7, [.ref nw, .ref pa, .int (iz (kp)), .ref zl, .ref hd, .ref pd, .int (iz (pn)), .int (iz (at0)), .ref os, .int (iz (od)), .int (iz (dy_dn Z h)), .int (iz (x2)), .int (iz (x3)), .int (iz (x4)), .int (iz (dy_lev Z (h + 1))), .int (iz (x5)), .ref mt, .ref cn])), (nw, .inl (T 0, 115, .inl (zA (mz Z))))] H := by rw [← hZ]; exact hP
    have hD : va_D A [(mm, .inr (7, [.ref nw, .ref pa, .int (iz (kp)), .ref zl, .ref hd, .ref pd, .int (iz (pn)), .int (iz (at0)), .ref os, .int (iz (od)), .int (iz (dy_dn Z h)), .int (iz (x2)), .int (iz (x3)), .int (iz (x4)), .int (iz (dy_lev Z (h + 1))), .int (iz (x5)), .ref mt, .ref cn])), (nw, .inl (T 0, 115, .inl (zA (mz Z))))] := by rw [← hZ]; exact hD
    have hZ : (x2 : Int) = dy_pu Z h := (by first | rfl | (rw [Nat.add_sub_cancel] at *; assumption))
    have hP : va_P D vwCl [(mm, .inr (7, [.ref nw, .ref pa, .int (iz (kp)), .ref zl, .ref hd, .ref pd, .int (iz (pn)), .int (iz (at0)), .ref os, .int (iz (od)), .int (iz (dy_dn Z h)), .int (iz (dy_pu Z h)), .int (iz (x3)), .int (iz (x4)), .int (iz (dy_lev Z (h + 1))), .int (iz (x5)), .ref mt, .ref cn])), (nw, .inl (T 0, 115, .inl (zA (mz Z))))] H := by rw [← hZ]; exact hP
    have hD : va_D A [(mm, .inr (7, [.ref nw, .ref pa, .int (iz (kp)), .ref zl, .ref hd, .ref pd, .int (iz (pn)), .int (iz (at0)), .ref os, .int (iz (od)), .int (iz (dy_dn Z h)), .int (iz (dy_pu Z h)), .int (iz (x3)), .int (iz (x4)), .int (iz (dy_lev Z (h + 1))), .int (iz (x5)), .ref mt, .ref cn])), (nw, .inl (T 0, 115, .inl (zA (mz Z))))] := by rw [← hZ]; exact hD
    have hZ : (x3 : Int) = dy_lo Z h := (by first | rfl | (rw [Nat.add_sub_cancel] at *; assumption))
    have hP : va_P D vwCl [(mm, .inr (7, [.ref nw, .ref pa, .int (iz (kp)), .ref zl, .ref hd, .ref pd, .int (iz (pn)), .int (iz (at0)), .ref os, .int (iz (od)), .int (iz (dy_dn Z h)), .int (iz (dy_pu Z h)), .int (iz (dy_lo Z h)), .int (iz (x4)), .int (iz (dy_lev Z (h + 1))), .int (iz (x5)), .ref mt, .ref cn])), (nw, .inl (T 0, 115, .inl (zA (mz Z))))] H := by rw [← hZ]; exact hP
    have hD : va_D A [(mm, .inr (7, [.ref nw, .ref pa, .int (iz (kp)), .ref zl, .ref hd, .ref pd, .int (iz (pn)), .int (iz (at0)), .ref os, .int (iz (od)), .int (iz (dy_dn Z h)), .int (iz (dy_pu Z h)), .int (iz (dy_lo Z h)), .int (iz (x4)), .int (iz (dy_lev Z (h + 1))), .int (iz (x5)), .ref mt, .ref cn])), (nw, .inl (T 0, 115, .inl (zA (mz Z))))] := by rw [← hZ]; exact hD
    have hZ : (x4 : Int) = dy_sp Z h := (by first | rfl | (rw [Nat.add_sub_cancel] at *; assumption))
    have hP : va_P D vwCl [(mm, .inr (7, [.ref nw, .ref pa, .int (iz (kp)), .ref zl, .ref hd, .ref pd, .int (iz (pn)), .int (iz (at0)), .ref os, .int (iz (od)), .int (iz (dy_dn Z h)), .int (iz (dy_pu Z h)), .int (iz (dy_lo Z h)), .int (iz (dy_sp Z h)), .int (iz (dy_lev Z (h + 1))), .int (iz (x5)), .ref mt, .ref cn])), (nw, .inl (T 0, 115, .inl (zA (mz Z))))] H := by rw [← hZ]; exact hP
    have hD : va_D A [(mm, .inr (7, [.ref nw, .ref pa, .int (iz (kp)), .ref zl, .ref hd, .ref pd, .int (iz (pn)), .int (iz (at0)), .ref os, .int (iz (od)), .int (iz (dy_dn Z h)), .int (iz (dy_pu Z h)), .int (iz (dy_lo Z h)), .int (iz (dy_sp Z h)), .int (iz (dy_lev Z (h + 1))), .int (iz (x5)), .ref mt, .ref cn])), (nw, .inl (T 0, 115, .inl (zA (mz Z))))] := by rw [← hZ]; exact hD
    have hZ : (dy_lev Z (h + 1) : Int) = dy_le Z h := (by first | rfl | (rw [Nat.add_sub_cancel] at *; assumption))
    have hP : va_P D vwCl [(mm, .inr (7, [.ref nw, .ref pa, .int (iz (kp)), .ref zl, .ref hd, .ref pd, .int (iz (pn)), .int (iz (at0)), .ref os, .int (iz (od)), .int (iz (dy_dn Z h)), .int (iz (dy_pu Z h)), .int (iz (dy_lo Z h)), .int (iz (dy_sp Z h)), .int (iz (dy_le Z h)), .int (iz (x5)), .ref mt, .ref cn])), (nw, .inl (T 0, 115, .inl (zA (mz Z))))] H := by rw [← hZ]; exact hP
    have hD : va_D A [(mm, .inr (7, [.ref nw, .ref pa, .int (iz (kp)), .ref zl, .ref hd, .ref pd, .int (iz (pn)), .int (iz (at0)), .ref os, .int (iz (od)), .int (iz (dy_dn Z h)), .int (iz (dy_pu Z h)), .int (iz (dy_lo Z h)), .int (iz (dy_sp Z h)), .int (iz (dy_le Z h)), .int (iz (x5)), .ref mt, .ref cn])), (nw, .inl (T 0, 115, .inl (zA (mz Z))))] := by rw [← hZ]; exact hD
    have hZ : (x5 : Int) = lk_want Z (Z (58 + h)) := (by first | rfl | (rw [Nat.add_sub_cancel] at *; assumption))
    have hP : va_P D vwCl [(mm, .inr (7, [.ref nw, .ref pa, .int (iz (kp)), .ref zl, .ref hd, .ref pd, .int (iz (pn)), .int (iz (at0)), .ref os, .int (iz (od)), .int (iz (dy_dn Z h)), .int (iz (dy_pu Z h)), .int (iz (dy_lo Z h)), .int (iz (dy_sp Z h)), .int (iz (dy_le Z h)), .int (iz (lk_want Z (Z (58 + h)))), .ref mt, .ref cn])), (nw, .inl (T 0, 115, .inl (zA (mz Z))))] H := by rw [← hZ]; exact hP
    have hD : va_D A [(mm, .inr (7, [.ref nw, .ref pa, .int (iz (kp)), .ref zl, .ref hd, .ref pd, .int (iz (pn)), .int (iz (at0)), .ref os, .int (iz (od)), .int (iz (dy_dn Z h)), .int (iz (dy_pu Z h)), .int (iz (dy_lo Z h)), .int (iz (dy_sp Z h)), .int (iz (dy_le Z h)), .int (iz (lk_want Z (Z (58 + h)))), .ref mt, .ref cn])), (nw, .inl (T 0, 115, .inl (zA (mz Z))))] := by rw [← hZ]; exact hD
    exact W.iret hx hb hr (fun t ht hW => ⟨⟨_, (), rfl, (congrArg iz (by rw [if_neg (Nat.succ_ne_zero h), Nat.add_sub_cancel])), by show va_P _ _ _ t.heap; rw [ht]; exact hP⟩, hS.F ht⟩) hS.2.2 dX7_goesTo_65
  · have hlv := dy_lev_rng hV n (by omega)
    have hpl := hV.plan (h := n) (by omega)
    refine kz_join (pcj := 39) (P := fun v1 => v1 = dy_ls Z n) (rest := []) (ls := ls) (fun J39 => ?_) (fun v1 ev1 => ?_)
    · refine lv_iload_n hx hb dX7_goesTo_21 rfl (lv_at hl 3 rfl) ?_
      have hdl : n ≤ 24 := by omega
      have hsq : 0 < n → 0 ≤ x4 ∧ x4 ≤ 20000 := fun q => by have := (dy_rng hV (n := n - 1) (by omega)).2.1; have := (hfx q).2.2.2.1; omega
      refine kz_if_le (tgt := 38) hx hb dX7_goesTo_22 (by decide) (by omega) (fun c22 => ?_) (fun c22 => ?_)
      · refine lv_iload_n hx hb dX7_goesTo_38 rfl (lv_at hl 2 rfl) ?_
        exact J39 (if n = 0 then -6 else dy_ls Z (n - 1)) (by rw [hls]; (repeat' split) <;> omega)
      · refine lv_aload_n hx hb dX7_goesTo_25 rfl (lv_at hl 0 rfl) ?_
        refine va_get (D := D) (ci := 7) (C := RX7) (T := TX7) (N := 18) hx hb hts w1 hown hK.1 hP 0 rfl rfl 13 (by decide) w3 (fun _ h9 => h9) rfl dX7_goesTo_26 ?_
        refine kz_if_le (tgt := 38) hx hb dX7_goesTo_29 (by decide) (by have := hsq (by omega); omega) (fun c29 => ?_) (fun c29 => ?_)
        · refine lv_iload_n hx hb dX7_goesTo_38 rfl (lv_at hl 2 rfl) ?_
          exact J39 (if n = 0 then -6 else dy_ls Z (n - 1)) (by rw [hls]; (repeat' split) <;> omega)
        · refine lv_iload_n hx hb dX7_goesTo_32 rfl (lv_at hl 3 rfl) ?_
          refine lv_iconst (v := iz (1)) hx hb dX7_goesTo_33 (by decide) ?_
          refine kz_sub hx hb dX7_goesTo_34 ?_
          refine lv_goto (tgt := 39) hx hb dX7_goesTo_35 (by decide) ?_
          exact J39 (((n : Nat) : Int) - 1) (by rw [hls]; (repeat' split) <;> omega)
    · refine kz_top (y := dy_ls Z n) ev1 ?_
      refine lv_istore_n (lv' := [(2, .int (iz (dy_ls Z n))), (0, .ref mm), (1, .int (iz (((h : Nat) : Int)))), (3, .int (iz (((n : Nat) : Int))))]) hx hb dX7_goesTo_39 rfl hl (by decide) rfl (fun ls hl => ?_)
      refine lv_aload_n hx hb dX7_goesTo_40 rfl (lv_at hl 1 rfl) ?_
      refine lv_iload_n hx hb dX7_goesTo_41 rfl (lv_at hl 3 rfl) ?_
      refine lv_aload_n hx hb dX7_goesTo_42 rfl (lv_at hl 1 rfl) ?_
      refine va_get (D := D) (ci := 7) (C := RX7) (T := TX7) (N := 18) hx hb hts w1 hown hK.1 hP 0 rfl rfl 14 (by decide) w2 (fun _ h9 => h9) rfl dX7_goesTo_43 ?_
      refine lv_aload_n hx hb dX7_goesTo_46 rfl (lv_at hl 1 rfl) ?_
      refine va_get (D := D) (ci := 7) (C := RX7) (T := TX7) (N := 18) hx hb hts w1 hown hK.1 hP 0 rfl rfl 0 (by decide) w0 (fun _ h9 => h9) rfl dX7_goesTo_47 ?_
      refine lv_bipush (v := iz (58)) hx hb dX7_goesTo_50 (by decide) ?_
      refine lv_iload_n hx hb dX7_goesTo_52 rfl (lv_at hl 3 rfl) ?_
      refine kz_add hx hb dX7_goesTo_53 ?_
      refine kz_iald hx hb hK hP (1) rfl (58 + n) (by omega) (by omega) (by omega) dX7_goesTo_54 ?_
      refine kz_top (y := Z (58 + n)) (mz_lo (by omega)) ?_
      refine kc_wv (va_runV (As := [.int (iz (((n : Nat) : Int))), .int (iz (dy_lev Z n)), .int (iz (Z (58 + n)))]) (rest := []) ⟨hx, hb, hml, hown, hts⟩ (c_X7_goes l D T H.size mm nw pa kp zl hd pd pn at0 os od x1 x2 x3 x4 (dy_lev Z n) x5 mt cn Z n (by omega) (dy_lev Z n) (by omega) (Z (58 + n)) (by omega) hV) (cwV 3 hts gX7_goesTo_X7_goes rfl rfl rfl (by decide +kernel) ⟨Nat.le_of_ble_eq_true rfl, Nat.le_of_ble_eq_true rfl⟩) (kPc.v hK (va_recv hK.1 hP (ci := 7) (q0 := 0) rfl rfl) (kW.cut hP hD [0, 1] rfl (by rfl))) rfl rfl hl.1 rfl (lv_room (Nat.le_of_ble_eq_true rfl)) dX7_goesTo_55 ⟨Nat.zero_le _, Nat.zero_le _⟩) hP hD hS hA [0, 1] rfl (fun _ => rfl) (fun u H locs hr1 hP hD hS => ?_)
      have hP : va_P D vwCl [(mm, .inr (7, [.ref nw, .ref pa, .int (iz (kp)), .ref zl, .ref hd, .ref pd, .int (iz (pn)), .int (iz (at0)), .ref os, .int (iz (od)), .int (iz (hr_dn Z n (dy_lev Z n) (Z (58 + n)))), .int (iz (lk_pump (Z (58 + n)))), .int (iz (lk_loss Z (lk_pump (Z (58 + n))))), .int (iz (hr_sp Z n (dy_lev Z n) (Z (58 + n)))), .int (iz (hr_lv Z n (dy_lev Z n) (Z (58 + n)))), .int (iz (lk_want Z (Z (58 + n)))), .ref mt, .ref cn])), (nw, .inl (T 0, 115, .inl (zA (mz Z))))] H := hP
      have hD : va_D A [(mm, .inr (7, [.ref nw, .ref pa, .int (iz (kp)), .ref zl, .ref hd, .ref pd, .int (iz (pn)), .int (iz (at0)), .ref os, .int (iz (od)), .int (iz (hr_dn Z n (dy_lev Z n) (Z (58 + n)))), .int (iz (lk_pump (Z (58 + n)))), .int (iz (lk_loss Z (lk_pump (Z (58 + n))))), .int (iz (hr_sp Z n (dy_lev Z n) (Z (58 + n)))), .int (iz (hr_lv Z n (dy_lev Z n) (Z (58 + n)))), .int (iz (lk_want Z (Z (58 + n)))), .ref mt, .ref cn])), (nw, .inl (T 0, 115, .inl (zA (mz Z))))] := hD
      refine kz_iinc (b := ((n + 1 : Nat) : Int)) (lv' := [(3, .int (iz (((n + 1 : Nat) : Int)))), (2, .int (iz (dy_ls Z n))), (0, .ref mm), (1, .int (iz (((h : Nat) : Int))))]) hx hb dX7_goesTo_58 hl (k := 3) rfl (by omega) (by decide) rfl (fun ls hl => ?_)
      refine lv_goto (tgt := 16) hx hb dX7_goesTo_61 (by decide) ?_
      have hl : lv_has ls 4 [(3, .int (iz (((n + 1 : Nat) : Int)))), (2, .int (iz (if (n + 1) = 0 then -6 else dy_ls Z ((n + 1) - 1)))), (0, .ref mm), (1, .int (iz (((h : Nat) : Int))))] := by rw [← (show (dy_ls Z n : Int) = if (n + 1) = 0 then -6 else dy_ls Z ((n + 1) - 1) from (by rw [if_neg (Nat.succ_ne_zero n), Nat.add_sub_cancel]))]; exact hl
      have hZ : (hr_dn Z n (dy_lev Z n) (Z (58 + n)) : Int) = (hr_dn Z n (dy_lev Z n) (Z (58 + n))) := (by first | rfl | omega)
      have hP : va_P D vwCl [(mm, .inr (7, [.ref nw, .ref pa, .int (iz (kp)), .ref zl, .ref hd, .ref pd, .int (iz (pn)), .int (iz (at0)), .ref os, .int (iz (od)), .int (iz ((hr_dn Z n (dy_lev Z n) (Z (58 + n))))), .int (iz (lk_pump (Z (58 + n)))), .int (iz (lk_loss Z (lk_pump (Z (58 + n))))), .int (iz (hr_sp Z n (dy_lev Z n) (Z (58 + n)))), .int (iz (hr_lv Z n (dy_lev Z n) (Z (58 + n)))), .int (iz (lk_want Z (Z (58 + n)))), .ref mt, .ref cn])), (nw, .inl (T 0, 115, .inl (zA (mz Z))))] H := by rw [← hZ]; exact hP
      have hD : va_D A [(mm, .inr (7, [.ref nw, .ref pa, .int (iz (kp)), .ref zl, .ref hd, .ref pd, .int (iz (pn)), .int (iz (at0)), .ref os, .int (iz (od)), .int (iz ((hr_dn Z n (dy_lev Z n) (Z (58 + n))))), .int (iz (lk_pump (Z (58 + n)))), .int (iz (lk_loss Z (lk_pump (Z (58 + n))))), .int (iz (hr_sp Z n (dy_lev Z n) (Z (58 + n)))), .int (iz (hr_lv Z n (dy_lev Z n) (Z (58 + n)))), .int (iz (lk_want Z (Z (58 + n)))), .ref mt, .ref cn])), (nw, .inl (T 0, 115, .inl (zA (mz Z))))] := by rw [← hZ]; exact hD
      have hZ : (lk_pump (Z (58 + n)) : Int) = (lk_pump (Z (58 + n))) := (by first | rfl | omega)
      have hP : va_P D vwCl [(mm, .inr (7, [.ref nw, .ref pa, .int (iz (kp)), .ref zl, .ref hd, .ref pd, .int (iz (pn)), .int (iz (at0)), .ref os, .int (iz (od)), .int (iz ((hr_dn Z n (dy_lev Z n) (Z (58 + n))))), .int (iz ((lk_pump (Z (58 + n))))), .int (iz (lk_loss Z (lk_pump (Z (58 + n))))), .int (iz (hr_sp Z n (dy_lev Z n) (Z (58 + n)))), .int (iz (hr_lv Z n (dy_lev Z n) (Z (58 + n)))), .int (iz (lk_want Z (Z (58 + n)))), .ref mt, .ref cn])), (nw, .inl (T 0, 115, .inl (zA (mz Z))))] H := by rw [← hZ]; exact hP
      have hD : va_D A [(mm, .inr (7, [.ref nw, .ref pa, .int (iz (kp)), .ref zl, .ref hd, .ref pd, .int (iz (pn)), .int (iz (at0)), .ref os, .int (iz (od)), .int (iz ((hr_dn Z n (dy_lev Z n) (Z (58 + n))))), .int (iz ((lk_pump (Z (58 + n))))), .int (iz (lk_loss Z (lk_pump (Z (58 + n))))), .int (iz (hr_sp Z n (dy_lev Z n) (Z (58 + n)))), .int (iz (hr_lv Z n (dy_lev Z n) (Z (58 + n)))), .int (iz (lk_want Z (Z (58 + n)))), .ref mt, .ref cn])), (nw, .inl (T 0, 115, .inl (zA (mz Z))))] := by rw [← hZ]; exact hD
      have hZ : (lk_loss Z (lk_pump (Z (58 + n))) : Int) = (lk_loss Z (lk_pump (Z (58 + n)))) := (by first | rfl | omega)
      have hP : va_P D vwCl [(mm, .inr (7, [.ref nw, .ref pa, .int (iz (kp)), .ref zl, .ref hd, .ref pd, .int (iz (pn)), .int (iz (at0)), .ref os, .int (iz (od)), .int (iz ((hr_dn Z n (dy_lev Z n) (Z (58 + n))))), .int (iz ((lk_pump (Z (58 + n))))), .int (iz ((lk_loss Z (lk_pump (Z (58 + n)))))), .int (iz (hr_sp Z n (dy_lev Z n) (Z (58 + n)))), .int (iz (hr_lv Z n (dy_lev Z n) (Z (58 + n)))), .int (iz (lk_want Z (Z (58 + n)))), .ref mt, .ref cn])), (nw, .inl (T 0, 115, .inl (zA (mz Z))))] H := by rw [← hZ]; exact hP
      have hD : va_D A [(mm, .inr (7, [.ref nw, .ref pa, .int (iz (kp)), .ref zl, .ref hd, .ref pd, .int (iz (pn)), .int (iz (at0)), .ref os, .int (iz (od)), .int (iz ((hr_dn Z n (dy_lev Z n) (Z (58 + n))))), .int (iz ((lk_pump (Z (58 + n))))), .int (iz ((lk_loss Z (lk_pump (Z (58 + n)))))), .int (iz (hr_sp Z n (dy_lev Z n) (Z (58 + n)))), .int (iz (hr_lv Z n (dy_lev Z n) (Z (58 + n)))), .int (iz (lk_want Z (Z (58 + n)))), .ref mt, .ref cn])), (nw, .inl (T 0, 115, .inl (zA (mz Z))))] := by rw [← hZ]; exact hD
      have hZ : (hr_sp Z n (dy_lev Z n) (Z (58 + n)) : Int) = (hr_sp Z n (dy_lev Z n) (Z (58 + n))) := (by first | rfl | omega)
      have hP : va_P D vwCl [(mm, .inr (7, [.ref nw, .ref pa, .int (iz (kp)), .ref zl, .ref hd, .ref pd, .int (iz (pn)), .int (iz (at0)), .ref os, .int (iz (od)), .int (iz ((hr_dn Z n (dy_lev Z n) (Z (58 + n))))), .int (iz ((lk_pump (Z (58 + n))))), .int (iz ((lk_loss Z (lk_pump (Z (58 + n)))))), .int (iz ((hr_sp Z n (dy_lev Z n) (Z (58 + n))))), .int (iz (hr_lv Z n (dy_lev Z n) (Z (58 + n)))), .int (iz (lk_want Z (Z (58 + n)))), .ref mt, .ref cn])), (nw, .inl (T 0, 115, .inl (zA (mz Z))))] H := by rw [← hZ]; exact hP
      have hD : va_D A [(mm, .inr (7, [.ref nw, .ref pa, .int (iz (kp)), .ref zl, .ref hd, .ref pd, .int (iz (pn)), .int (iz (at0)), .ref os, .int (iz (od)), .int (iz ((hr_dn Z n (dy_lev Z n) (Z (58 + n))))), .int (iz ((lk_pump (Z (58 + n))))), .int (iz ((lk_loss Z (lk_pump (Z (58 + n)))))), .int (iz ((hr_sp Z n (dy_lev Z n) (Z (58 + n))))), .int (iz (hr_lv Z n (dy_lev Z n) (Z (58 + n)))), .int (iz (lk_want Z (Z (58 + n)))), .ref mt, .ref cn])), (nw, .inl (T 0, 115, .inl (zA (mz Z))))] := by rw [← hZ]; exact hD
      have hZ : (hr_lv Z n (dy_lev Z n) (Z (58 + n)) : Int) = dy_lev Z (n + 1) := (by first | rfl | omega)
      have hP : va_P D vwCl [(mm, .inr (7, [.ref nw, .ref pa, .int (iz (kp)), .ref zl, .ref hd, .ref pd, .int (iz (pn)), .int (iz (at0)), .ref os, .int (iz (od)), .int (iz ((hr_dn Z n (dy_lev Z n) (Z (58 + n))))), .int (iz ((lk_pump (Z (58 + n))))), .int (iz ((lk_loss Z (lk_pump (Z (58 + n)))))), .int (iz ((hr_sp Z n (dy_lev Z n) (Z (58 + n))))), .int (iz (dy_lev Z (n + 1))), .int (iz (lk_want Z (Z (58 + n)))), .ref mt, .ref cn])), (nw, .inl (T 0, 115, .inl (zA (mz Z))))] H := by rw [← hZ]; exact hP
      have hD : va_D A [(mm, .inr (7, [.ref nw, .ref pa, .int (iz (kp)), .ref zl, .ref hd, .ref pd, .int (iz (pn)), .int (iz (at0)), .ref os, .int (iz (od)), .int (iz ((hr_dn Z n (dy_lev Z n) (Z (58 + n))))), .int (iz ((lk_pump (Z (58 + n))))), .int (iz ((lk_loss Z (lk_pump (Z (58 + n)))))), .int (iz ((hr_sp Z n (dy_lev Z n) (Z (58 + n))))), .int (iz (dy_lev Z (n + 1))), .int (iz (lk_want Z (Z (58 + n)))), .ref mt, .ref cn])), (nw, .inl (T 0, 115, .inl (zA (mz Z))))] := by rw [← hZ]; exact hD
      have hZ : (lk_want Z (Z (58 + n)) : Int) = (lk_want Z (Z (58 + n))) := rfl
      have hP : va_P D vwCl [(mm, .inr (7, [.ref nw, .ref pa, .int (iz (kp)), .ref zl, .ref hd, .ref pd, .int (iz (pn)), .int (iz (at0)), .ref os, .int (iz (od)), .int (iz ((hr_dn Z n (dy_lev Z n) (Z (58 + n))))), .int (iz ((lk_pump (Z (58 + n))))), .int (iz ((lk_loss Z (lk_pump (Z (58 + n)))))), .int (iz ((hr_sp Z n (dy_lev Z n) (Z (58 + n))))), .int (iz (dy_lev Z (n + 1))), .int (iz ((lk_want Z (Z (58 + n))))), .ref mt, .ref cn])), (nw, .inl (T 0, 115, .inl (zA (mz Z))))] H := by rw [← hZ]; exact hP
      have hD : va_D A [(mm, .inr (7, [.ref nw, .ref pa, .int (iz (kp)), .ref zl, .ref hd, .ref pd, .int (iz (pn)), .int (iz (at0)), .ref os, .int (iz (od)), .int (iz ((hr_dn Z n (dy_lev Z n) (Z (58 + n))))), .int (iz ((lk_pump (Z (58 + n))))), .int (iz ((lk_loss Z (lk_pump (Z (58 + n)))))), .int (iz ((hr_sp Z n (dy_lev Z n) (Z (58 + n))))), .int (iz (dy_lev Z (n + 1))), .int (iz ((lk_want Z (Z (58 + n))))), .ref mt, .ref cn])), (nw, .inl (T 0, 115, .inl (zA (mz Z))))] := by rw [← hZ]; exact hD
      exact ih16 (n + 1) (hr_dn Z n (dy_lev Z n) (Z (58 + n))) (lk_pump (Z (58 + n))) (lk_loss Z (lk_pump (Z (58 + n)))) (hr_sp Z n (dy_lev Z n) (Z (58 + n))) (lk_want Z (Z (58 + n))) _ _ _ ⟨(by omega), (fun _ => by rw [Nat.add_sub_cancel]; exact ⟨rfl, rfl, rfl, rfl, rfl⟩), hP, hD, hS, lv_sub hl [2, 3, 1, 0] rfl⟩ (by omega)
set_option maxHeartbeats 4000000 in
set_option maxRecDepth 100000 in
theorem c_X7_inHour (l : Launch) (D : va_G) (T : Nat → ClassId) (mm : Nat) (nw : Nat) (pa : Nat) (kp : Int) (zl : Nat) (hd : Nat) (pd : Nat) (pn : Int) (at0 : Int) (os : Nat) (od : Int) (dn : Int) (pu : Int) (lo2 : Int) (sp2 : Int) (lv2 : Int) (wa : Int) (mt : Nat) (cn : Nat) (Z : Nat → Int) (h : Nat) (hh24 : h < 24) (w : Int) (hw : 0 ≤ w ∧ w ≤ 10) (hV : VL Z) (hdn : 0 ≤ dn ∧ dn ≤ 30) (hwa : 0 ≤ wa ∧ wa ≤ 30) (hsp2 : 0 ≤ sp2 ∧ sp2 ≤ 20000) (hpu : 0 ≤ pu ∧ pu ≤ 30) (hlo2 : 0 ≤ lo2 ∧ lo2 ≤ 30) : Met l yX7_inHour wsX7_inHour ({ frames := 3, cells := 0, slots := 0, locals := 68 }) (kPc D T [.ref mm, .int (iz (((h : Nat) : Int))), .int (iz (w))] (va_P D vwCl [(mm, .inr (7, [.ref nw, .ref pa, .int (iz (kp)), .ref zl, .ref hd, .ref pd, .int (iz (pn)), .int (iz (at0)), .ref os, .int (iz (od)), .int (iz (dn)), .int (iz (pu)), .int (iz (lo2)), .int (iz (sp2)), .int (iz (lv2)), .int (iz (wa)), .ref mt, .ref cn])), (nw, .inl (T 0, 115, .inl (zA (mz Z))))])) (vp_Si (fun r : Int32 => r = iz (ih_v Z h dn pu lo2 sp2 wa w))) 0 0 (fun _ => False) := by
  refine Met.ofW (cc := cX7_inHour) (maxL := 3) (ret := (some .int)) (by decide) rfl ?_
  intro p e s m args below meth c s₁ B hml hv
  obtain ⟨rfl, hK, hP⟩ := hv
  have hx := B.exec
  have hb := B.bytes
  have hr := B.returns
  have hts := atoms_spec (ws := wsX7_inHour) B.pre
  have hown : s.vm.findClass RX7 = some m.cls := findClass_of_methodNamed B.named
  have hlocks := B.notSynchronized
  have w0 := hts (.fieldLink RX7 66 "LakePlantModel" "down" "I") (List.mem_of_getElem? (i := 1) rfl)
  have w1 : ∀ w ∈ wsX70, w ∈ wsX7_inHour := by decide +kernel
  have w2 := hts (.fieldLink RX7 54 "LakePlantModel" "pumped" "I") (List.mem_of_getElem? (i := 2) rfl)
  have w3 := hts (.fieldLink RX7 57 "LakePlantModel" "lost" "I") (List.mem_of_getElem? (i := 3) rfl)
  have w4 := hts (.fieldLink RX7 69 "LakePlantModel" "spilled" "I") (List.mem_of_getElem? (i := 4) rfl)
  have w5 := hts (.fieldLink RX7 7 "LakePlantModel" "now" "[I") (List.mem_of_getElem? (i := 5) rfl)
  have w6 := hts (.fieldLink RX7 63 "LakePlantModel" "wanted" "I") (List.mem_of_getElem? (i := 6) rfl)
  have hP : va_P D vwCl [(mm, .inr (7, [.ref nw, .ref pa, .int (iz (kp)), .ref zl, .ref hd, .ref pd, .int (iz (pn)), .int (iz (at0)), .ref os, .int (iz (od)), .int (iz (dn)), .int (iz (pu)), .int (iz (lo2)), .int (iz (sp2)), .int (iz (lv2)), .int (iz (wa)), .ref mt, .ref cn])), (nw, .inl (T 0, 115, .inl (zA (mz Z))))] s.heap := hP
  have hl := lv_entry ([.ref mm, .int (iz (((h : Nat) : Int))), .int (iz (w))]) (n := 3) (Nat.le_of_ble_eq_true rfl)
  rw [lg_entry_eq]
  generalize (lg_sl ([.ref mm, .int (iz (((h : Nat) : Int))), .int (iz (w))]) ++ List.replicate (3 - (lg_sl ([.ref mm, .int (iz (((h : Nat) : Int))), .int (iz (w))])).length) Slot.unset).toArray = ls at hl ⊢
  have hl : lv_has ls 3 [(0, .ref mm), (1, .int (iz (((h : Nat) : Int)))), (2, .int (iz (w)))] := hl
  have hs := hV.1
  unfold VS at hs
  refine lv_iload_n hx hb dX7_inHour_0 rfl (lv_at hl 2 rfl) ?_
  rcases (show w = 0 ∨ w = 1 ∨ w = 2 ∨ w = 3 ∨ w = 4 ∨ w = 5 ∨ w = 6 ∨ w = 7 ∨ w = 8 ∨ (w < 0 ∨ 8 < w) from (by omega)) with hs1 | hs1 | hs1 | hs1 | hs1 | hs1 | hs1 | hs1 | hs1 | hs1
  · refine kz_tableIn (v := 0) (tgt := 52) (off := 51) hx hb dX7_inHour_1 hs1 (by decide) rfl (by decide) ?_
    refine lv_aload_n hx hb dX7_inHour_52 rfl (lv_at hl 0 rfl) ?_
    refine lv_iload_n hx hb dX7_inHour_53 rfl (lv_at hl 1 rfl) ?_
    refine kc_i (va_runV (As := [.int (iz (((h : Nat) : Int)))]) (rest := []) ⟨hx, hb, hml, hown, hts⟩ (c_X7_money l D T mm nw pa kp zl hd pd pn at0 os od dn pu lo2 sp2 lv2 wa mt cn Z h (by omega) hV (by omega) (by omega)) (cwV 1 hts gX7_inHour_X7_money rfl rfl rfl (by decide +kernel) ⟨Nat.le_of_ble_eq_true rfl, Nat.le_of_ble_eq_true rfl⟩) (kPc.v hK (va_recv hK.1 hP (ci := 7) (q0 := 0) rfl rfl) (kcut hP [0, 1] rfl)) rfl rfl hl.1 rfl (lv_room (Nat.le_of_ble_eq_true rfl)) dX7_inHour_54 ⟨Nat.zero_le _, Nat.zero_le _⟩) (fun r1 hr1 => ?_)
    subst hr1
    exact W.iret hx hb hr (fun t ht _ => ⟨_, rfl, (congrArg iz (by rw [hs1]; rfl)), ht⟩) (fun _ h => absurd h List.not_mem_nil) dX7_inHour_57
  · refine kz_tableIn (v := 1) (tgt := 58) (off := 57) hx hb dX7_inHour_1 hs1 (by decide) rfl (by decide) ?_
    refine lv_aload_n hx hb dX7_inHour_58 rfl (lv_at hl 0 rfl) ?_
    refine va_get (D := D) (ci := 7) (C := RX7) (T := TX7) (N := 18) hx hb hts w1 hown hK.1 hP 0 rfl rfl 10 (by decide) w0 (fun _ h9 => h9) rfl dX7_inHour_59 ?_
    exact W.iret hx hb hr (fun t ht _ => ⟨_, rfl, (congrArg iz (by rw [hs1]; rfl)), ht⟩) (fun _ h => absurd h List.not_mem_nil) dX7_inHour_62
  · refine kz_tableIn (v := 2) (tgt := 63) (off := 62) hx hb dX7_inHour_1 hs1 (by decide) rfl (by decide) ?_
    refine lv_aload_n hx hb dX7_inHour_63 rfl (lv_at hl 0 rfl) ?_
    refine va_get (D := D) (ci := 7) (C := RX7) (T := TX7) (N := 18) hx hb hts w1 hown hK.1 hP 0 rfl rfl 11 (by decide) w2 (fun _ h9 => h9) rfl dX7_inHour_64 ?_
    exact W.iret hx hb hr (fun t ht _ => ⟨_, rfl, (congrArg iz (by rw [hs1]; rfl)), ht⟩) (fun _ h => absurd h List.not_mem_nil) dX7_inHour_67
  · refine kz_tableIn (v := 3) (tgt := 68) (off := 67) hx hb dX7_inHour_1 hs1 (by decide) rfl (by decide) ?_
    refine lv_aload_n hx hb dX7_inHour_68 rfl (lv_at hl 0 rfl) ?_
    refine va_get (D := D) (ci := 7) (C := RX7) (T := TX7) (N := 18) hx hb hts w1 hown hK.1 hP 0 rfl rfl 12 (by decide) w3 (fun _ h9 => h9) rfl dX7_inHour_69 ?_
    exact W.iret hx hb hr (fun t ht _ => ⟨_, rfl, (congrArg iz (by rw [hs1]; rfl)), ht⟩) (fun _ h => absurd h List.not_mem_nil) dX7_inHour_72
  · refine kz_tableIn (v := 4) (tgt := 73) (off := 72) hx hb dX7_inHour_1 hs1 (by decide) rfl (by decide) ?_
    refine lv_aload_n hx hb dX7_inHour_73 rfl (lv_at hl 0 rfl) ?_
    refine va_get (D := D) (ci := 7) (C := RX7) (T := TX7) (N := 18) hx hb hts w1 hown hK.1 hP 0 rfl rfl 13 (by decide) w4 (fun _ h9 => h9) rfl dX7_inHour_74 ?_
    exact W.iret hx hb hr (fun t ht _ => ⟨_, rfl, (congrArg iz (by rw [hs1]; rfl)), ht⟩) (fun _ h => absurd h List.not_mem_nil) dX7_inHour_77
  · refine kz_tableIn (v := 5) (tgt := 120) (off := 119) hx hb dX7_inHour_1 hs1 (by decide) rfl (by decide) ?_
    refine lv_aload_n hx hb dX7_inHour_120 rfl (lv_at hl 0 rfl) ?_
    refine va_get (D := D) (ci := 7) (C := RX7) (T := TX7) (N := 18) hx hb hts w1 hown hK.1 hP 0 rfl rfl 0 (by decide) w5 (fun _ h9 => h9) rfl dX7_inHour_121 ?_
    refine lv_bipush (v := iz (34)) hx hb dX7_inHour_124 (by decide) ?_
    refine lv_iload_n hx hb dX7_inHour_126 rfl (lv_at hl 1 rfl) ?_
    refine kz_add hx hb dX7_inHour_127 ?_
    refine kz_iald hx hb hK hP (1) rfl (34 + h) (by omega) (by omega) (by omega) dX7_inHour_128 ?_
    refine kz_top (y := Z (34 + h)) (mz_lo (by omega)) ?_
    exact W.iret hx hb hr (fun t ht _ => ⟨_, rfl, (congrArg iz (by unfold ih_v; (repeat' split) <;> omega)), ht⟩) (fun _ h => absurd h List.not_mem_nil) dX7_inHour_129
  · refine kz_tableIn (v := 6) (tgt := 78) (off := 77) hx hb dX7_inHour_1 hs1 (by decide) rfl (by decide) ?_
    refine lv_aload_n hx hb dX7_inHour_78 rfl (lv_at hl 0 rfl) ?_
    refine va_get (D := D) (ci := 7) (C := RX7) (T := TX7) (N := 18) hx hb hts w1 hown hK.1 hP 0 rfl rfl 10 (by decide) w0 (fun _ h9 => h9) rfl dX7_inHour_79 ?_
    refine lv_aload_n hx hb dX7_inHour_82 rfl (lv_at hl 0 rfl) ?_
    refine va_get (D := D) (ci := 7) (C := RX7) (T := TX7) (N := 18) hx hb hts w1 hown hK.1 hP 0 rfl rfl 0 (by decide) w5 (fun _ h9 => h9) rfl dX7_inHour_83 ?_
    refine lv_iconst (v := iz (4)) hx hb dX7_inHour_86 (by decide) ?_
    refine kz_iald hx hb hK hP (1) rfl (4) (by omega) (by omega) (by omega) dX7_inHour_87 ?_
    refine kz_top (y := Z 4) (mz_lo (by omega)) ?_
    refine kz_icmp_ge (tgt := 95) hx hb dX7_inHour_88 (by decide) (by omega) (by omega) (fun c88 => ?_) (fun c88 => ?_)
    · refine lv_iconst (v := iz (0)) hx hb dX7_inHour_95 (by decide) ?_
      exact W.iret hx hb hr (fun t ht _ => ⟨_, rfl, (congrArg iz (by rw [hs1]; exact (if_neg (by omega)).symm)), ht⟩) (fun _ h => absurd h List.not_mem_nil) dX7_inHour_96
    · refine lv_iconst (v := iz (1)) hx hb dX7_inHour_91 (by decide) ?_
      refine lv_goto (tgt := 96) hx hb dX7_inHour_92 (by decide) ?_
      exact W.iret hx hb hr (fun t ht _ => ⟨_, rfl, (congrArg iz (by rw [hs1]; exact (if_pos (by omega)).symm)), ht⟩) (fun _ h => absurd h List.not_mem_nil) dX7_inHour_96
  · refine kz_tableIn (v := 7) (tgt := 97) (off := 96) hx hb dX7_inHour_1 hs1 (by decide) rfl (by decide) ?_
    refine lv_aload_n hx hb dX7_inHour_97 rfl (lv_at hl 0 rfl) ?_
    refine va_get (D := D) (ci := 7) (C := RX7) (T := TX7) (N := 18) hx hb hts w1 hown hK.1 hP 0 rfl rfl 10 (by decide) w0 (fun _ h9 => h9) rfl dX7_inHour_98 ?_
    refine lv_aload_n hx hb dX7_inHour_101 rfl (lv_at hl 0 rfl) ?_
    refine va_get (D := D) (ci := 7) (C := RX7) (T := TX7) (N := 18) hx hb hts w1 hown hK.1 hP 0 rfl rfl 15 (by decide) w6 (fun _ h9 => h9) rfl dX7_inHour_102 ?_
    refine kz_icmp_ge (tgt := 112) hx hb dX7_inHour_105 (by decide) (by omega) (by omega) (fun c105 => ?_) (fun c105 => ?_)
    · refine lv_iconst (v := iz (0)) hx hb dX7_inHour_112 (by decide) ?_
      exact W.iret hx hb hr (fun t ht _ => ⟨_, rfl, (congrArg iz (by rw [hs1]; exact (if_neg (by omega)).symm)), ht⟩) (fun _ h => absurd h List.not_mem_nil) dX7_inHour_113
    · refine lv_iconst (v := iz (1)) hx hb dX7_inHour_108 (by decide) ?_
      refine lv_goto (tgt := 113) hx hb dX7_inHour_109 (by decide) ?_
      exact W.iret hx hb hr (fun t ht _ => ⟨_, rfl, (congrArg iz (by rw [hs1]; exact (if_pos (by omega)).symm)), ht⟩) (fun _ h => absurd h List.not_mem_nil) dX7_inHour_113
  · refine kz_tableIn (v := 8) (tgt := 114) (off := 113) hx hb dX7_inHour_1 hs1 (by decide) rfl (by decide) ?_
    refine lv_aload_n hx hb dX7_inHour_114 rfl (lv_at hl 0 rfl) ?_
    refine lv_iload_n hx hb dX7_inHour_115 rfl (lv_at hl 1 rfl) ?_
    refine kc_i (va_runV (As := [.int (iz (((h : Nat) : Int)))]) (rest := []) ⟨hx, hb, hml, hown, hts⟩ (c_X7_missed l D T mm nw pa kp zl hd pd pn at0 os od dn pu lo2 sp2 lv2 wa mt cn Z h (by omega) hV (by omega)) (cwV 1 hts gX7_inHour_X7_missed rfl rfl rfl (by decide +kernel) ⟨Nat.le_of_ble_eq_true rfl, Nat.le_of_ble_eq_true rfl⟩) (kPc.v hK (va_recv hK.1 hP (ci := 7) (q0 := 0) rfl rfl) (kcut hP [0, 1] rfl)) rfl rfl hl.1 rfl (lv_room (Nat.le_of_ble_eq_true rfl)) dX7_inHour_116 ⟨Nat.zero_le _, Nat.zero_le _⟩) (fun r2 hr2 => ?_)
    subst hr2
    exact W.iret hx hb hr (fun t ht _ => ⟨_, rfl, (congrArg iz (by rw [hs1]; rfl)), ht⟩) (fun _ h => absurd h List.not_mem_nil) dX7_inHour_119
  · refine kz_tableOut (tgt := 120) hx hb dX7_inHour_1 (by omega) hs1 (by decide) ?_
    refine lv_aload_n hx hb dX7_inHour_120 rfl (lv_at hl 0 rfl) ?_
    refine va_get (D := D) (ci := 7) (C := RX7) (T := TX7) (N := 18) hx hb hts w1 hown hK.1 hP 0 rfl rfl 0 (by decide) w5 (fun _ h9 => h9) rfl dX7_inHour_121 ?_
    refine lv_bipush (v := iz (34)) hx hb dX7_inHour_124 (by decide) ?_
    refine lv_iload_n hx hb dX7_inHour_126 rfl (lv_at hl 1 rfl) ?_
    refine kz_add hx hb dX7_inHour_127 ?_
    refine kz_iald hx hb hK hP (1) rfl (34 + h) (by omega) (by omega) (by omega) dX7_inHour_128 ?_
    refine kz_top (y := Z (34 + h)) (mz_lo (by omega)) ?_
    exact W.iret hx hb hr (fun t ht _ => ⟨_, rfl, (congrArg iz (by unfold ih_v; (repeat' split) <;> omega)), ht⟩) (fun _ h => absurd h List.not_mem_nil) dX7_inHour_129
set_option maxHeartbeats 4000000 in
set_option maxRecDepth 100000 in
theorem c_X7_daily (l : Launch) (D : va_G) (T : Nat → ClassId) (sz : Nat) (mm : Nat) (nw : Nat) (pa : Nat) (kp : Int) (zl : Nat) (hd : Nat) (pd : Nat) (pn : Int) (at0 : Int) (os : Nat) (od : Int) (dn : Int) (pu : Int) (lo2 : Int) (sp2 : Int) (lv2 : Int) (wa : Int) (mt : Nat) (cn : Nat) (Z : Nat → Int) (w : Int) (hw : 0 ≤ w ∧ w ≤ 10) (hV : VL Z) : Met l yX7_daily wsX7_daily ({ frames := 4, cells := 0, slots := 0, locals := 90 }) (kPc D T [.ref mm, .int (iz (w))] (kW D sz [(mm, .inr (7, [.ref nw, .ref pa, .int (iz (kp)), .ref zl, .ref hd, .ref pd, .int (iz (pn)), .int (iz (at0)), .ref os, .int (iz (od)), .int (iz (dn)), .int (iz (pu)), .int (iz (lo2)), .int (iz (sp2)), .int (iz (lv2)), .int (iz (wa)), .ref mt, .ref cn])), (nw, .inl (T 0, 115, .inl (zA (mz Z))))])) (va_Qi (fun (r : Int32) (u : Unit) => r = iz (pl_day Z w)) (fun (u : Unit) (t : State) => va_P D vwCl [(mm, .inr (7, [.ref nw, .ref pa, .int (iz (kp)), .ref zl, .ref hd, .ref pd, .int (iz (pn)), .int (iz (at0)), .ref os, .int (iz (od)), .int (iz (dy_dn Z 23)), .int (iz (dy_pu Z 23)), .int (iz (dy_lo Z 23)), .int (iz (dy_sp Z 23)), .int (iz (dy_le Z 23)), .int (iz (lk_want Z (Z (58 + 23)))), .ref mt, .ref cn])), (nw, .inl (T 0, 115, .inl (zA (mz Z))))] t.heap) (va_A [(mm, .inr (7, [.ref nw, .ref pa, .int (iz (kp)), .ref zl, .ref hd, .ref pd, .int (iz (pn)), .int (iz (at0)), .ref os, .int (iz (od)), .int (iz (dn)), .int (iz (pu)), .int (iz (lo2)), .int (iz (sp2)), .int (iz (lv2)), .int (iz (wa)), .ref mt, .ref cn])), (nw, .inl (T 0, 115, .inl (zA (mz Z))))] sz)) 0 0 (va_A [(mm, .inr (7, [.ref nw, .ref pa, .int (iz (kp)), .ref zl, .ref hd, .ref pd, .int (iz (pn)), .int (iz (at0)), .ref os, .int (iz (od)), .int (iz (dn)), .int (iz (pu)), .int (iz (lo2)), .int (iz (sp2)), .int (iz (lv2)), .int (iz (wa)), .ref mt, .ref cn])), (nw, .inl (T 0, 115, .inl (zA (mz Z))))] sz) := by
  refine Met.ofW (cc := cX7_daily) (maxL := 4) (ret := (some .int)) (by decide) rfl ?_
  intro p e s m args below meth c s₁ B hml hv
  obtain ⟨rfl, hK, hsz, hP, hD0⟩ := hv
  have hx := B.exec
  have hb := B.bytes
  have hr := B.returns
  have hts := atoms_spec (ws := wsX7_daily) B.pre
  have hown : s.vm.findClass RX7 = some m.cls := findClass_of_methodNamed B.named
  have hlocks := B.notSynchronized
  have w0 := hts (.constant RX7 148 (10000000)) (List.mem_of_getElem? (i := 1) rfl)
  have w1 := hts (.fieldLink RX7 7 "LakePlantModel" "now" "[I") (List.mem_of_getElem? (i := 2) rfl)
  have w2 : ∀ w ∈ wsX70, w ∈ wsX7_daily := by decide +kernel
  have w3 := hts (.fieldLink RX7 60 "LakePlantModel" "level" "I") (List.mem_of_getElem? (i := 3) rfl)
  subst hsz
  have hD := hD0.self (sz := s.heap.size)
  generalize hAe : va_A [(mm, .inr (7, [.ref nw, .ref pa, .int (iz (kp)), .ref zl, .ref hd, .ref pd, .int (iz (pn)), .int (iz (at0)), .ref os, .int (iz (od)), .int (iz (dn)), .int (iz (pu)), .int (iz (lo2)), .int (iz (sp2)), .int (iz (lv2)), .int (iz (wa)), .ref mt, .ref cn])), (nw, .inl (T 0, 115, .inl (zA (mz Z))))] s.heap.size = A at hD ⊢
  have hA : ∀ q : Nat, s.heap.size ≤ q → A q := fun q h => by rw [← hAe]; exact Or.inr h
  have hS : va_S A s.heap s.heap [] := va_S.rf
  have hP : va_P D vwCl [(mm, .inr (7, [.ref nw, .ref pa, .int (iz (kp)), .ref zl, .ref hd, .ref pd, .int (iz (pn)), .int (iz (at0)), .ref os, .int (iz (od)), .int (iz (dn)), .int (iz (pu)), .int (iz (lo2)), .int (iz (sp2)), .int (iz (lv2)), .int (iz (wa)), .ref mt, .ref cn])), (nw, .inl (T 0, 115, .inl (zA (mz Z))))] s.heap := hP
  have hl := lv_entry ([.ref mm, .int (iz (w))]) (n := 4) (Nat.le_of_ble_eq_true rfl)
  rw [lg_entry_eq]
  generalize (lg_sl ([.ref mm, .int (iz (w))]) ++ List.replicate (4 - (lg_sl ([.ref mm, .int (iz (w))])).length) Slot.unset).toArray = ls at hl ⊢
  have hl : lv_has ls 4 [(0, .ref mm), (1, .int (iz (w)))] := hl
  have hs := hV.1
  unfold VS at hs
  have hda := da_day (Z := Z) hw
  refine kz_join (pcj := 10) (P := fun v1 => v1 = if w = 0 then 10000000 else 0) (rest := []) (ls := ls) (fun J10 => ?_) (fun v1 ev1 => ?_)
  · refine lv_iload_n hx hb dX7_daily_0 rfl (lv_at hl 1 rfl) ?_
    refine kz_if_ne (tgt := 9) hx hb dX7_daily_1 (by decide) (by omega) (fun c1 => ?_) (fun c1 => ?_)
    · refine lv_iconst (v := iz (0)) hx hb dX7_daily_9 (by decide) ?_
      exact J10 (0) (by split <;> omega)
    · refine lv_ldc (v := (10000000 : Int32)) hx hb hown w0 dX7_daily_4 ?_
      refine W.eq (g2 := F0 m 6 ls (.int (iz (10000000)) :: [])) (by rw [show iz (10000000) = (10000000 : Int32) from by decide]) ?_
      refine lv_goto (tgt := 10) hx hb dX7_daily_6 (by decide) ?_
      exact J10 (10000000) (by split <;> omega)
  · refine kz_top (y := if w = 0 then 10000000 else 0) ev1 ?_
    refine lv_istore_n (lv' := [(2, .int (iz (if w = 0 then 10000000 else 0))), (0, .ref mm), (1, .int (iz (w)))]) hx hb dX7_daily_10 rfl hl (by decide) rfl (fun ls hl => ?_)
    refine lv_aload_n hx hb dX7_daily_11 rfl (lv_at hl 1 rfl) ?_
    refine lv_aload_n hx hb dX7_daily_12 rfl (lv_at hl 1 rfl) ?_
    refine va_get (D := D) (ci := 7) (C := RX7) (T := TX7) (N := 18) hx hb hts w2 hown hK.1 hP 0 rfl rfl 0 (by decide) w1 (fun _ h9 => h9) rfl dX7_daily_13 ?_
    refine lv_bipush (v := iz (7)) hx hb dX7_daily_16 (by decide) ?_
    refine kz_iald hx hb hK hP (1) rfl (7) (by omega) (by omega) (by omega) dX7_daily_18 ?_
    refine kz_top (y := Z 7) (mz_lo (by omega)) ?_
    refine va_put (D := D) (ci := 7) (v := .int (iz (Z 7))) (ty := .int) (C := RX7) (T := TX7) (N := 18) hx hb hts w2 tyX7 tyX7_ok nmX7 hown hK.1 hP hD hS 0 rfl rfl 14 (by decide) w3 (fun _ h9 => h9) rfl (by decide +kernel) rfl rfl (Nat.le_of_ble_eq_true rfl) dX7_daily_19 (fun H locs hP hD hS => ?_)
    have hP : va_P D vwCl [(mm, .inr (7, [.ref nw, .ref pa, .int (iz (kp)), .ref zl, .ref hd, .ref pd, .int (iz (pn)), .int (iz (at0)), .ref os, .int (iz (od)), .int (iz (dn)), .int (iz (pu)), .int (iz (lo2)), .int (iz (sp2)), .int (iz (Z 7)), .int (iz (wa)), .ref mt, .ref cn])), (nw, .inl (T 0, 115, .inl (zA (mz Z))))] H := hP
    have hD : va_D A [(mm, .inr (7, [.ref nw, .ref pa, .int (iz (kp)), .ref zl, .ref hd, .ref pd, .int (iz (pn)), .int (iz (at0)), .ref os, .int (iz (od)), .int (iz (dn)), .int (iz (pu)), .int (iz (lo2)), .int (iz (sp2)), .int (iz (Z 7)), .int (iz (wa)), .ref mt, .ref cn])), (nw, .inl (T 0, 115, .inl (zA (mz Z))))] := hD
    refine lv_iconst (v := iz (0)) hx hb dX7_daily_22 (by decide) ?_
    refine lv_istore_n (lv' := [(3, .int (iz (0))), (2, .int (iz (if w = 0 then 10000000 else 0))), (0, .ref mm), (1, .int (iz (w)))]) hx hb dX7_daily_23 rfl hl (by decide) rfl (fun ls hl => ?_)
    have hl : lv_has ls 4 [(3, .int (iz (0))), (2, .int (iz ((if w = 0 then 10000000 else 0) + da_s Z w 0))), (0, .ref mm), (1, .int (iz (w)))] := by rw [← (show (if w = 0 then 10000000 else 0 : Int) = (if w = 0 then 10000000 else 0) + da_s Z w 0 from (by show _ = _ + (0 : Int); split <;> omega))]; exact hl
    have hl : lv_has ls 4 [(3, .int (iz (((0 : Nat) : Int)))), (2, .int (iz ((if w = 0 then 10000000 else 0) + da_s Z w 0))), (0, .ref mm), (1, .int (iz (w)))] := by rw [← (show (0 : Int) = ((0 : Nat) : Int) from (by first | rfl | omega))]; exact hl
    have hZ : (Z 7 : Int) = dy_lev Z 0 := (by first | rfl | omega)
    have hP : va_P D vwCl [(mm, .inr (7, [.ref nw, .ref pa, .int (iz (kp)), .ref zl, .ref hd, .ref pd, .int (iz (pn)), .int (iz (at0)), .ref os, .int (iz (od)), .int (iz (dn)), .int (iz (pu)), .int (iz (lo2)), .int (iz (sp2)), .int (iz (dy_lev Z 0)), .int (iz (wa)), .ref mt, .ref cn])), (nw, .inl (T 0, 115, .inl (zA (mz Z))))] H := by rw [← hZ]; exact hP
    have hD : va_D A [(mm, .inr (7, [.ref nw, .ref pa, .int (iz (kp)), .ref zl, .ref hd, .ref pd, .int (iz (pn)), .int (iz (at0)), .ref os, .int (iz (od)), .int (iz (dn)), .int (iz (pu)), .int (iz (lo2)), .int (iz (sp2)), .int (iz (dy_lev Z 0)), .int (iz (wa)), .ref mt, .ref cn])), (nw, .inl (T 0, 115, .inl (zA (mz Z))))] := by rw [← hZ]; exact hD
    refine kz_loopW6 (pc := 24) (I := fun (n : Nat) (x1 : Int) (x2 : Int) (x3 : Int) (x4 : Int) (x5 : Int) (H : Heap) (locs : List Loc) (ls : Array Slot) => (n ≤ 24) ∧ (0 < n → x1 = dy_dn Z (n - 1) ∧ x2 = dy_pu Z (n - 1) ∧ x3 = dy_lo Z (n - 1) ∧ x4 = dy_sp Z (n - 1) ∧ x5 = lk_want Z (Z (58 + (n - 1)))) ∧ va_P D vwCl [(mm, .inr (7, [.ref nw, .ref pa, .int (iz (kp)), .ref zl, .ref hd, .ref pd, .int (iz (pn)), .int (iz (at0)), .ref os, .int (iz (od)), .int (iz (x1)), .int (iz (x2)), .int (iz (x3)), .int (iz (x4)), .int (iz (dy_lev Z n)), .int (iz (x5)), .ref mt, .ref cn])), (nw, .inl (T 0, 115, .inl (zA (mz Z))))] H ∧ va_D A [(mm, .inr (7, [.ref nw, .ref pa, .int (iz (kp)), .ref zl, .ref hd, .ref pd, .int (iz (pn)), .int (iz (at0)), .ref os, .int (iz (od)), .int (iz (x1)), .int (iz (x2)), .int (iz (x3)), .int (iz (x4)), .int (iz (dy_lev Z n)), .int (iz (x5)), .ref mt, .ref cn])), (nw, .inl (T 0, 115, .inl (zA (mz Z))))] ∧ va_S A s.heap H locs ∧ lv_has ls 4 [(0, .ref mm), (1, .int (iz (w))), (2, .int (iz ((if w = 0 then 10000000 else 0) + da_s Z w n))), (3, .int (iz (((n : Nat) : Int))))]) (μ := fun (n : Nat) (x1 : Int) (x2 : Int) (x3 : Int) (x4 : Int) (x5 : Int) => 24 - n) 0 dn pu lo2 sp2 wa ⟨(by omega), (fun q => absurd q (Nat.lt_irrefl 0)), hP, hD, hS, lv_sub hl [2, 3, 1, 0] rfl⟩ ?_
    rintro n x1 x2 x3 x4 x5 H locs ls ⟨hn, hfx, hP, hD, hS, hl⟩ ih24
    have hdr := da_s_rng hV w (n := n) hn
    have hfb : 0 ≤ (if w = 0 then (10000000 : Int) else 0) ∧ (if w = 0 then (10000000 : Int) else 0) ≤ 10000000 := by split <;> omega
    refine lv_iload_n hx hb dX7_daily_24 rfl (lv_at hl 3 rfl) ?_
    refine lv_bipush (v := iz (24)) hx hb dX7_daily_25 (by decide) ?_
    refine kz_icmp_ge (tgt := 63) hx hb dX7_daily_27 (by decide) (by omega) (by omega) (fun c27 => ?_) (fun c27 => ?_)
    · have hnn : n = 24 := by omega
      subst hnn
      have hl : lv_has ls 4 [(0, .ref mm), (1, .int (iz (w))), (2, .int (iz ((if w = 0 then 10000000 else 0) + da_s Z w 24))), (3, .int (iz (((24 : Nat) : Int))))] := hl
      obtain ⟨e1, e2, e3, e4, e5⟩ := hfx (by omega)
      have hl24 := dy_lev_rng hV 24 (Nat.le_refl _)
      refine lv_iload_n hx hb dX7_daily_63 rfl (lv_at hl 1 rfl) ?_
      refine lv_iconst (v := iz (5)) hx hb dX7_daily_64 (by decide) ?_
      refine kz_icmp_ne (tgt := 75) hx hb dX7_daily_65 (by decide) (by omega) (by omega) (fun c65 => ?_) (fun c65 => ?_)
      · refine lv_iload_n hx hb dX7_daily_75 rfl (lv_at hl 1 rfl) ?_
        refine lv_bipush (v := iz (9)) hx hb dX7_daily_76 (by decide) ?_
        refine kz_icmp_ne (tgt := 103) hx hb dX7_daily_78 (by decide) (by omega) (by omega) (fun c78 => ?_) (fun c78 => ?_)
        · refine lv_iload_n hx hb dX7_daily_103 rfl (lv_at hl 2 rfl) ?_
          have hZ : (x1 : Int) = dy_dn Z 23 := (by first | rfl | assumption)
          have hP : va_P D vwCl [(mm, .inr (7, [.ref nw, .ref pa, .int (iz (kp)), .ref zl, .ref hd, .ref pd, .int (iz (pn)), .int (iz (at0)), .ref os, .int (iz (od)), .int (iz (dy_dn Z 23)), .int (iz (x2)), .int (iz (x3)), .int (iz (x4)), .int (iz (dy_lev Z 24)), .int (iz (x5)), .ref mt, .ref cn])), (nw, .inl (T 0, 115, .inl (zA (mz Z))))] H := by rw [← hZ]; exact hP
          have hD : va_D A [(mm, .inr (7, [.ref nw, .ref pa, .int (iz (kp)), .ref zl, .ref hd, .ref pd, .int (iz (pn)), .int (iz (at0)), .ref os, .int (iz (od)), .int (iz (dy_dn Z 23)), .int (iz (x2)), .int (iz (x3)), .int (iz (x4)), .int (iz (dy_lev Z 24)), .int (iz (x5)), .ref mt, .ref cn])), (nw, .inl (T 0, 115, .inl (zA (mz Z))))] := by rw [← hZ]; exact hD
          have hZ : (x2 : Int) = dy_pu Z 23 := (by first | rfl | assumption)
          have hP : va_P D vwCl [(mm, .inr (7, [.ref nw, .ref pa, .int (iz (kp)), .ref zl, .ref hd, .ref pd, .int (iz (pn)), .int (iz (at0)), .ref os, .int (iz (od)), .int (iz (dy_dn Z 23)), .int (iz (dy_pu Z 23)), .int (iz (x3)), .int (iz (x4)), .int (iz (dy_lev Z 24)), .int (iz (x5)), .ref mt, .ref cn])), (nw, .inl (T 0, 115, .inl (zA (mz Z))))] H := by rw [← hZ]; exact hP
          have hD : va_D A [(mm, .inr (7, [.ref nw, .ref pa, .int (iz (kp)), .ref zl, .ref hd, .ref pd, .int (iz (pn)), .int (iz (at0)), .ref os, .int (iz (od)), .int (iz (dy_dn Z 23)), .int (iz (dy_pu Z 23)), .int (iz (x3)), .int (iz (x4)), .int (iz (dy_lev Z 24)), .int (iz (x5)), .ref mt, .ref cn])), (nw, .inl (T 0, 115, .inl (zA (mz Z))))] := by rw [← hZ]; exact hD
          have hZ : (x3 : Int) = dy_lo Z 23 := (by first | rfl | assumption)
          have hP : va_P D vwCl [(mm, .inr (7, [.ref nw, .ref pa, .int (iz (kp)), .ref zl, .ref hd, .ref pd, .int (iz (pn)), .int (iz (at0)), .ref os, .int (iz (od)), .int (iz (dy_dn Z 23)), .int (iz (dy_pu Z 23)), .int (iz (dy_lo Z 23)), .int (iz (x4)), .int (iz (dy_lev Z 24)), .int (iz (x5)), .ref mt, .ref cn])), (nw, .inl (T 0, 115, .inl (zA (mz Z))))] H := by rw [← hZ]; exact hP
          have hD : va_D A [(mm, .inr (7, [.ref nw, .ref pa, .int (iz (kp)), .ref zl, .ref hd, .ref pd, .int (iz (pn)), .int (iz (at0)), .ref os, .int (iz (od)), .int (iz (dy_dn Z 23)), .int (iz (dy_pu Z 23)), .int (iz (dy_lo Z 23)), .int (iz (x4)), .int (iz (dy_lev Z 24)), .int (iz (x5)), .ref mt, .ref cn])), (nw, .inl (T 0, 115, .inl (zA (mz Z))))] := by rw [← hZ]; exact hD
          have hZ : (x4 : Int) = dy_sp Z 23 := (by first | rfl | assumption)
          have hP : va_P D vwCl [(mm, .inr (7, [.ref nw, .ref pa, .int (iz (kp)), .ref zl, .ref hd, .ref pd, .int (iz (pn)), .int (iz (at0)), .ref os, .int (iz (od)), .int (iz (dy_dn Z 23)), .int (iz (dy_pu Z 23)), .int (iz (dy_lo Z 23)), .int (iz (dy_sp Z 23)), .int (iz (dy_lev Z 24)), .int (iz (x5)), .ref mt, .ref cn])), (nw, .inl (T 0, 115, .inl (zA (mz Z))))] H := by rw [← hZ]; exact hP
          have hD : va_D A [(mm, .inr (7, [.ref nw, .ref pa, .int (iz (kp)), .ref zl, .ref hd, .ref pd, .int (iz (pn)), .int (iz (at0)), .ref os, .int (iz (od)), .int (iz (dy_dn Z 23)), .int (iz (dy_pu Z 23)), .int (iz (dy_lo Z 23)), .int (iz (dy_sp Z 23)), .int (iz (dy_lev Z 24)), .int (iz (x5)), .ref mt, .ref cn])), (nw, .inl (T 0, 115, .inl (zA (mz Z))))] := by rw [← hZ]; exact hD
          have hZ : (dy_lev Z 24 : Int) = dy_le Z 23 := (by first | rfl | assumption)
          have hP : va_P D vwCl [(mm, .inr (7, [.ref nw, .ref pa, .int (iz (kp)), .ref zl, .ref hd, .ref pd, .int (iz (pn)), .int (iz (at0)), .ref os, .int (iz (od)), .int (iz (dy_dn Z 23)), .int (iz (dy_pu Z 23)), .int (iz (dy_lo Z 23)), .int (iz (dy_sp Z 23)), .int (iz (dy_le Z 23)), .int (iz (x5)), .ref mt, .ref cn])), (nw, .inl (T 0, 115, .inl (zA (mz Z))))] H := by rw [← hZ]; exact hP
          have hD : va_D A [(mm, .inr (7, [.ref nw, .ref pa, .int (iz (kp)), .ref zl, .ref hd, .ref pd, .int (iz (pn)), .int (iz (at0)), .ref os, .int (iz (od)), .int (iz (dy_dn Z 23)), .int (iz (dy_pu Z 23)), .int (iz (dy_lo Z 23)), .int (iz (dy_sp Z 23)), .int (iz (dy_le Z 23)), .int (iz (x5)), .ref mt, .ref cn])), (nw, .inl (T 0, 115, .inl (zA (mz Z))))] := by rw [← hZ]; exact hD
          have hZ : (x5 : Int) = lk_want Z (Z (58 + 23)) := (by first | rfl | assumption)
          have hP : va_P D vwCl [(mm, .inr (7, [.ref nw, .ref pa, .int (iz (kp)), .ref zl, .ref hd, .ref pd, .int (iz (pn)), .int (iz (at0)), .ref os, .int (iz (od)), .int (iz (dy_dn Z 23)), .int (iz (dy_pu Z 23)), .int (iz (dy_lo Z 23)), .int (iz (dy_sp Z 23)), .int (iz (dy_le Z 23)), .int (iz (lk_want Z (Z (58 + 23)))), .ref mt, .ref cn])), (nw, .inl (T 0, 115, .inl (zA (mz Z))))] H := by rw [← hZ]; exact hP
          have hD : va_D A [(mm, .inr (7, [.ref nw, .ref pa, .int (iz (kp)), .ref zl, .ref hd, .ref pd, .int (iz (pn)), .int (iz (at0)), .ref os, .int (iz (od)), .int (iz (dy_dn Z 23)), .int (iz (dy_pu Z 23)), .int (iz (dy_lo Z 23)), .int (iz (dy_sp Z 23)), .int (iz (dy_le Z 23)), .int (iz (lk_want Z (Z (58 + 23)))), .ref mt, .ref cn])), (nw, .inl (T 0, 115, .inl (zA (mz Z))))] := by rw [← hZ]; exact hD
          exact W.iret hx hb hr (fun t ht hW => ⟨⟨_, (), rfl, (congrArg iz (by rw [hda]; (repeat' split) <;> omega)), by show va_P _ _ _ t.heap; rw [ht]; exact hP⟩, hS.F ht⟩) hS.2.2 dX7_daily_104
        · refine lv_aload_n hx hb dX7_daily_81 rfl (lv_at hl 0 rfl) ?_
          refine va_get (D := D) (ci := 7) (C := RX7) (T := TX7) (N := 18) hx hb hts w2 hown hK.1 hP 0 rfl rfl 14 (by decide) w3 (fun _ h9 => h9) rfl dX7_daily_82 ?_
          refine lv_aload_n hx hb dX7_daily_85 rfl (lv_at hl 0 rfl) ?_
          refine va_get (D := D) (ci := 7) (C := RX7) (T := TX7) (N := 18) hx hb hts w2 hown hK.1 hP 0 rfl rfl 0 (by decide) w1 (fun _ h9 => h9) rfl dX7_daily_86 ?_
          refine lv_bipush (v := iz (8)) hx hb dX7_daily_89 (by decide) ?_
          refine kz_iald hx hb hK hP (1) rfl (8) (by omega) (by omega) (by omega) dX7_daily_91 ?_
          refine kz_top (y := Z 8) (mz_lo (by omega)) ?_
          refine kz_icmp_lt (tgt := 99) hx hb dX7_daily_92 (by decide) (by omega) (by omega) (fun c92 => ?_) (fun c92 => ?_)
          · refine lv_iconst (v := iz (0)) hx hb dX7_daily_99 (by decide) ?_
            refine lv_goto (tgt := 104) hx hb dX7_daily_100 (by decide) ?_
            have hZ : (x1 : Int) = dy_dn Z 23 := (by first | rfl | assumption)
            have hP : va_P D vwCl [(mm, .inr (7, [.ref nw, .ref pa, .int (iz (kp)), .ref zl, .ref hd, .ref pd, .int (iz (pn)), .int (iz (at0)), .ref os, .int (iz (od)), .int (iz (dy_dn Z 23)), .int (iz (x2)), .int (iz (x3)), .int (iz (x4)), .int (iz (dy_lev Z 24)), .int (iz (x5)), .ref mt, .ref cn])), (nw, .inl (T 0, 115, .inl (zA (mz Z))))] H := by rw [← hZ]; exact hP
            have hD : va_D A [(mm, .inr (7, [.ref nw, .ref pa, .int (iz (kp)), .ref zl, .ref hd, .ref pd, .int (iz (pn)), .int (iz (at0)), .ref os, .int (iz (od)), .int (iz (dy_dn Z 23)), .int (iz (x2)), .int (iz (x3)), .int (iz (x4)), .int (iz (dy_lev Z 24)), .int (iz (x5)), .ref mt, .ref cn])), (nw, .inl (T 0, 115, .inl (zA (mz Z))))] := by rw [← hZ]; exact hD
            have hZ : (x2 : Int) = dy_pu Z 23 := (by first | rfl | assumption)
            have hP : va_P D vwCl [(mm, .inr (7, [.ref nw, .ref pa, .int (iz (kp)), .ref zl, .ref hd, .ref pd, .int (iz (pn)), .int (iz (at0)), .ref os, .int (iz (od)), .int (iz (dy_dn Z 23)), .int (iz (dy_pu Z 23)), .int (iz (x3)), .int (iz (x4)), .int (iz (dy_lev Z 24)), .int (iz (x5)), .ref mt, .ref cn])), (nw, .inl (T 0, 115, .inl (zA (mz Z))))] H := by rw [← hZ]; exact hP
            have hD : va_D A [(mm, .inr (7, [.ref nw, .ref pa, .int (iz (kp)), .ref zl, .ref hd, .ref pd, .int (iz (pn)), .int (iz (at0)), .ref os, .int (iz (od)), .int (iz (dy_dn Z 23)), .int (iz (dy_pu Z 23)), .int (iz (x3)), .int (iz (x4)), .int (iz (dy_lev Z 24)), .int (iz (x5)), .ref mt, .ref cn])), (nw, .inl (T 0, 115, .inl (zA (mz Z))))] := by rw [← hZ]; exact hD
            have hZ : (x3 : Int) = dy_lo Z 23 := (by first | rfl | assumption)
            have hP : va_P D vwCl [(mm, .inr (7, [.ref nw, .ref pa, .int (iz (kp)), .ref zl, .ref hd, .ref pd, .int (iz (pn)), .int (iz (at0)), .ref os, .int (iz (od)), .int (iz (dy_dn Z 23)), .int (iz (dy_pu Z 23)), .int (iz (dy_lo Z 23)), .int (iz (x4)), .int (iz (dy_lev Z 24)), .int (iz (x5)), .ref mt, .ref cn])), (nw, .inl (T 0, 115, .inl (zA (mz Z))))] H := by rw [← hZ]; exact hP
            have hD : va_D A [(mm, .inr (7, [.ref nw, .ref pa, .int (iz (kp)), .ref zl, .ref hd, .ref pd, .int (iz (pn)), .int (iz (at0)), .ref os, .int (iz (od)), .int (iz (dy_dn Z 23)), .int (iz (dy_pu Z 23)), .int (iz (dy_lo Z 23)), .int (iz (x4)), .int (iz (dy_lev Z 24)), .int (iz (x5)), .ref mt, .ref cn])), (nw, .inl (T 0, 115, .inl (zA (mz Z))))] := by rw [← hZ]; exact hD
            have hZ : (x4 : Int) = dy_sp Z 23 := (by first | rfl | assumption)
            have hP : va_P D vwCl [(mm, .inr (7, [.ref nw, .ref pa, .int (iz (kp)), .ref zl, .ref hd, .ref pd, .int (iz (pn)), .int (iz (at0)), .ref os, .int (iz (od)), .int (iz (dy_dn Z 23)), .int (iz (dy_pu Z 23)), .int (iz (dy_lo Z 23)), .int (iz (dy_sp Z 23)), .int (iz (dy_lev Z 24)), .int (iz (x5)), .ref mt, .ref cn])), (nw, .inl (T 0, 115, .inl (zA (mz Z))))] H := by rw [← hZ]; exact hP
            have hD : va_D A [(mm, .inr (7, [.ref nw, .ref pa, .int (iz (kp)), .ref zl, .ref hd, .ref pd, .int (iz (pn)), .int (iz (at0)), .ref os, .int (iz (od)), .int (iz (dy_dn Z 23)), .int (iz (dy_pu Z 23)), .int (iz (dy_lo Z 23)), .int (iz (dy_sp Z 23)), .int (iz (dy_lev Z 24)), .int (iz (x5)), .ref mt, .ref cn])), (nw, .inl (T 0, 115, .inl (zA (mz Z))))] := by rw [← hZ]; exact hD
            have hZ : (dy_lev Z 24 : Int) = dy_le Z 23 := (by first | rfl | assumption)
            have hP : va_P D vwCl [(mm, .inr (7, [.ref nw, .ref pa, .int (iz (kp)), .ref zl, .ref hd, .ref pd, .int (iz (pn)), .int (iz (at0)), .ref os, .int (iz (od)), .int (iz (dy_dn Z 23)), .int (iz (dy_pu Z 23)), .int (iz (dy_lo Z 23)), .int (iz (dy_sp Z 23)), .int (iz (dy_le Z 23)), .int (iz (x5)), .ref mt, .ref cn])), (nw, .inl (T 0, 115, .inl (zA (mz Z))))] H := by rw [← hZ]; exact hP
            have hD : va_D A [(mm, .inr (7, [.ref nw, .ref pa, .int (iz (kp)), .ref zl, .ref hd, .ref pd, .int (iz (pn)), .int (iz (at0)), .ref os, .int (iz (od)), .int (iz (dy_dn Z 23)), .int (iz (dy_pu Z 23)), .int (iz (dy_lo Z 23)), .int (iz (dy_sp Z 23)), .int (iz (dy_le Z 23)), .int (iz (x5)), .ref mt, .ref cn])), (nw, .inl (T 0, 115, .inl (zA (mz Z))))] := by rw [← hZ]; exact hD
            have hZ : (x5 : Int) = lk_want Z (Z (58 + 23)) := (by first | rfl | assumption)
            have hP : va_P D vwCl [(mm, .inr (7, [.ref nw, .ref pa, .int (iz (kp)), .ref zl, .ref hd, .ref pd, .int (iz (pn)), .int (iz (at0)), .ref os, .int (iz (od)), .int (iz (dy_dn Z 23)), .int (iz (dy_pu Z 23)), .int (iz (dy_lo Z 23)), .int (iz (dy_sp Z 23)), .int (iz (dy_le Z 23)), .int (iz (lk_want Z (Z (58 + 23)))), .ref mt, .ref cn])), (nw, .inl (T 0, 115, .inl (zA (mz Z))))] H := by rw [← hZ]; exact hP
            have hD : va_D A [(mm, .inr (7, [.ref nw, .ref pa, .int (iz (kp)), .ref zl, .ref hd, .ref pd, .int (iz (pn)), .int (iz (at0)), .ref os, .int (iz (od)), .int (iz (dy_dn Z 23)), .int (iz (dy_pu Z 23)), .int (iz (dy_lo Z 23)), .int (iz (dy_sp Z 23)), .int (iz (dy_le Z 23)), .int (iz (lk_want Z (Z (58 + 23)))), .ref mt, .ref cn])), (nw, .inl (T 0, 115, .inl (zA (mz Z))))] := by rw [← hZ]; exact hD
            exact W.iret hx hb hr (fun t ht hW => ⟨⟨_, (), rfl, (congrArg iz (by rw [hda]; (repeat' split) <;> omega)), by show va_P _ _ _ t.heap; rw [ht]; exact hP⟩, hS.F ht⟩) hS.2.2 dX7_daily_104
          · refine lv_iconst (v := iz (1)) hx hb dX7_daily_95 (by decide) ?_
            refine lv_goto (tgt := 104) hx hb dX7_daily_96 (by decide) ?_
            have hZ : (x1 : Int) = dy_dn Z 23 := (by first | rfl | assumption)
            have hP : va_P D vwCl [(mm, .inr (7, [.ref nw, .ref pa, .int (iz (kp)), .ref zl, .ref hd, .ref pd, .int (iz (pn)), .int (iz (at0)), .ref os, .int (iz (od)), .int (iz (dy_dn Z 23)), .int (iz (x2)), .int (iz (x3)), .int (iz (x4)), .int (iz (dy_lev Z 24)), .int (iz (x5)), .ref mt, .ref cn])), (nw, .inl (T 0, 115, .inl (zA (mz Z))))] H := by rw [← hZ]; exact hP
            have hD : va_D A [(mm, .inr (7, [.ref nw, .ref pa, .int (iz (kp)), .ref zl, .ref hd, .ref pd, .int (iz (pn)), .int (iz (at0)), .ref os, .int (iz (od)), .int (iz (dy_dn Z 23)), .int (iz (x2)), .int (iz (x3)), .int (iz (x4)), .int (iz (dy_lev Z 24)), .int (iz (x5)), .ref mt, .ref cn])), (nw, .inl (T 0, 115, .inl (zA (mz Z))))] := by rw [← hZ]; exact hD
            have hZ : (x2 : Int) = dy_pu Z 23 := (by first | rfl | assumption)
            have hP : va_P D vwCl [(mm, .inr (7, [.ref nw, .ref pa, .int (iz (kp)), .ref zl, .ref hd, .ref pd, .int (iz (pn)), .int (iz (at0)), .ref os, .int (iz (od)), .int (iz (dy_dn Z 23)), .int (iz (dy_pu Z 23)), .int (iz (x3)), .int (iz (x4)), .int (iz (dy_lev Z 24)), .int (iz (x5)), .ref mt, .ref cn])), (nw, .inl (T 0, 115, .inl (zA (mz Z))))] H := by rw [← hZ]; exact hP
            have hD : va_D A [(mm, .inr (7, [.ref nw, .ref pa, .int (iz (kp)), .ref zl, .ref hd, .ref pd, .int (iz (pn)), .int (iz (at0)), .ref os, .int (iz (od)), .int (iz (dy_dn Z 23)), .int (iz (dy_pu Z 23)), .int (iz (x3)), .int (iz (x4)), .int (iz (dy_lev Z 24)), .int (iz (x5)), .ref mt, .ref cn])), (nw, .inl (T 0, 115, .inl (zA (mz Z))))] := by rw [← hZ]; exact hD
            have hZ : (x3 : Int) = dy_lo Z 23 := (by first | rfl | assumption)
            have hP : va_P D vwCl [(mm, .inr (7, [.ref nw, .ref pa, .int (iz (kp)), .ref zl, .ref hd, .ref pd, .int (iz (pn)), .int (iz (at0)), .ref os, .int (iz (od)), .int (iz (dy_dn Z 23)), .int (iz (dy_pu Z 23)), .int (iz (dy_lo Z 23)), .int (iz (x4)), .int (iz (dy_lev Z 24)), .int (iz (x5)), .ref mt, .ref cn])), (nw, .inl (T 0, 115, .inl (zA (mz Z))))] H := by rw [← hZ]; exact hP
            have hD : va_D A [(mm, .inr (7, [.ref nw, .ref pa, .int (iz (kp)), .ref zl, .ref hd, .ref pd, .int (iz (pn)), .int (iz (at0)), .ref os, .int (iz (od)), .int (iz (dy_dn Z 23)), .int (iz (dy_pu Z 23)), .int (iz (dy_lo Z 23)), .int (iz (x4)), .int (iz (dy_lev Z 24)), .int (iz (x5)), .ref mt, .ref cn])), (nw, .inl (T 0, 115, .inl (zA (mz Z))))] := by rw [← hZ]; exact hD
            have hZ : (x4 : Int) = dy_sp Z 23 := (by first | rfl | assumption)
            have hP : va_P D vwCl [(mm, .inr (7, [.ref nw, .ref pa, .int (iz (kp)), .ref zl, .ref hd, .ref pd, .int (iz (pn)), .int (iz (at0)), .ref os, .int (iz (od)), .int (iz (dy_dn Z 23)), .int (iz (dy_pu Z 23)), .int (iz (dy_lo Z 23)), .int (iz (dy_sp Z 23)), .int (iz (dy_lev Z 24)), .int (iz (x5)), .ref mt, .ref cn])), (nw, .inl (T 0, 115, .inl (zA (mz Z))))] H := by rw [← hZ]; exact hP
            have hD : va_D A [(mm, .inr (7, [.ref nw, .ref pa, .int (iz (kp)), .ref zl, .ref hd, .ref pd, .int (iz (pn)), .int (iz (at0)), .ref os, .int (iz (od)), .int (iz (dy_dn Z 23)), .int (iz (dy_pu Z 23)), .int (iz (dy_lo Z 23)), .int (iz (dy_sp Z 23)), .int (iz (dy_lev Z 24)), .int (iz (x5)), .ref mt, .ref cn])), (nw, .inl (T 0, 115, .inl (zA (mz Z))))] := by rw [← hZ]; exact hD
            have hZ : (dy_lev Z 24 : Int) = dy_le Z 23 := (by first | rfl | assumption)
            have hP : va_P D vwCl [(mm, .inr (7, [.ref nw, .ref pa, .int (iz (kp)), .ref zl, .ref hd, .ref pd, .int (iz (pn)), .int (iz (at0)), .ref os, .int (iz (od)), .int (iz (dy_dn Z 23)), .int (iz (dy_pu Z 23)), .int (iz (dy_lo Z 23)), .int (iz (dy_sp Z 23)), .int (iz (dy_le Z 23)), .int (iz (x5)), .ref mt, .ref cn])), (nw, .inl (T 0, 115, .inl (zA (mz Z))))] H := by rw [← hZ]; exact hP
            have hD : va_D A [(mm, .inr (7, [.ref nw, .ref pa, .int (iz (kp)), .ref zl, .ref hd, .ref pd, .int (iz (pn)), .int (iz (at0)), .ref os, .int (iz (od)), .int (iz (dy_dn Z 23)), .int (iz (dy_pu Z 23)), .int (iz (dy_lo Z 23)), .int (iz (dy_sp Z 23)), .int (iz (dy_le Z 23)), .int (iz (x5)), .ref mt, .ref cn])), (nw, .inl (T 0, 115, .inl (zA (mz Z))))] := by rw [← hZ]; exact hD
            have hZ : (x5 : Int) = lk_want Z (Z (58 + 23)) := (by first | rfl | assumption)
            have hP : va_P D vwCl [(mm, .inr (7, [.ref nw, .ref pa, .int (iz (kp)), .ref zl, .ref hd, .ref pd, .int (iz (pn)), .int (iz (at0)), .ref os, .int (iz (od)), .int (iz (dy_dn Z 23)), .int (iz (dy_pu Z 23)), .int (iz (dy_lo Z 23)), .int (iz (dy_sp Z 23)), .int (iz (dy_le Z 23)), .int (iz (lk_want Z (Z (58 + 23)))), .ref mt, .ref cn])), (nw, .inl (T 0, 115, .inl (zA (mz Z))))] H := by rw [← hZ]; exact hP
            have hD : va_D A [(mm, .inr (7, [.ref nw, .ref pa, .int (iz (kp)), .ref zl, .ref hd, .ref pd, .int (iz (pn)), .int (iz (at0)), .ref os, .int (iz (od)), .int (iz (dy_dn Z 23)), .int (iz (dy_pu Z 23)), .int (iz (dy_lo Z 23)), .int (iz (dy_sp Z 23)), .int (iz (dy_le Z 23)), .int (iz (lk_want Z (Z (58 + 23)))), .ref mt, .ref cn])), (nw, .inl (T 0, 115, .inl (zA (mz Z))))] := by rw [← hZ]; exact hD
            exact W.iret hx hb hr (fun t ht hW => ⟨⟨_, (), rfl, (congrArg iz (by rw [hda]; (repeat' split) <;> omega)), by show va_P _ _ _ t.heap; rw [ht]; exact hP⟩, hS.F ht⟩) hS.2.2 dX7_daily_104
      · refine lv_aload_n hx hb dX7_daily_68 rfl (lv_at hl 0 rfl) ?_
        refine va_get (D := D) (ci := 7) (C := RX7) (T := TX7) (N := 18) hx hb hts w2 hown hK.1 hP 0 rfl rfl 14 (by decide) w3 (fun _ h9 => h9) rfl dX7_daily_69 ?_
        refine lv_goto (tgt := 104) hx hb dX7_daily_72 (by decide) ?_
        have hZ : (x1 : Int) = dy_dn Z 23 := (by first | rfl | assumption)
        have hP : va_P D vwCl [(mm, .inr (7, [.ref nw, .ref pa, .int (iz (kp)), .ref zl, .ref hd, .ref pd, .int (iz (pn)), .int (iz (at0)), .ref os, .int (iz (od)), .int (iz (dy_dn Z 23)), .int (iz (x2)), .int (iz (x3)), .int (iz (x4)), .int (iz (dy_lev Z 24)), .int (iz (x5)), .ref mt, .ref cn])), (nw, .inl (T 0, 115, .inl (zA (mz Z))))] H := by rw [← hZ]; exact hP
        have hD : va_D A [(mm, .inr (7, [.ref nw, .ref pa, .int (iz (kp)), .ref zl, .ref hd, .ref pd, .int (iz (pn)), .int (iz (at0)), .ref os, .int (iz (od)), .int (iz (dy_dn Z 23)), .int (iz (x2)), .int (iz (x3)), .int (iz (x4)), .int (iz (dy_lev Z 24)), .int (iz (x5)), .ref mt, .ref cn])), (nw, .inl (T 0, 115, .inl (zA (mz Z))))] := by rw [← hZ]; exact hD
        have hZ : (x2 : Int) = dy_pu Z 23 := (by first | rfl | assumption)
        have hP : va_P D vwCl [(mm, .inr (7, [.ref nw, .ref pa, .int (iz (kp)), .ref zl, .ref hd, .ref pd, .int (iz (pn)), .int (iz (at0)), .ref os, .int (iz (od)), .int (iz (dy_dn Z 23)), .int (iz (dy_pu Z 23)), .int (iz (x3)), .int (iz (x4)), .int (iz (dy_lev Z 24)), .int (iz (x5)), .ref mt, .ref cn])), (nw, .inl (T 0, 115, .inl (zA (mz Z))))] H := by rw [← hZ]; exact hP
        have hD : va_D A [(mm, .inr (7, [.ref nw, .ref pa, .int (iz (kp)), .ref zl, .ref hd, .ref pd, .int (iz (pn)), .int (iz (at0)), .ref os, .int (iz (od)), .int (iz (dy_dn Z 23)), .int (iz (dy_pu Z 23)), .int (iz (x3)), .int (iz (x4)), .int (iz (dy_lev Z 24)), .int (iz (x5)), .ref mt, .ref cn])), (nw, .inl (T 0, 115, .inl (zA (mz Z))))] := by rw [← hZ]; exact hD
        have hZ : (x3 : Int) = dy_lo Z 23 := (by first | rfl | assumption)
        have hP : va_P D vwCl [(mm, .inr (7, [.ref nw, .ref pa, .int (iz (kp)), .ref zl, .ref hd, .ref pd, .int (iz (pn)), .int (iz (at0)), .ref os, .int (iz (od)), .int (iz (dy_dn Z 23)), .int (iz (dy_pu Z 23)), .int (iz (dy_lo Z 23)), .int (iz (x4)), .int (iz (dy_lev Z 24)), .int (iz (x5)), .ref mt, .ref cn])), (nw, .inl (T 0, 115, .inl (zA (mz Z))))] H := by rw [← hZ]; exact hP
        have hD : va_D A [(mm, .inr (7, [.ref nw, .ref pa, .int (iz (kp)), .ref zl, .ref hd, .ref pd, .int (iz (pn)), .int (iz (at0)), .ref os, .int (iz (od)), .int (iz (dy_dn Z 23)), .int (iz (dy_pu Z 23)), .int (iz (dy_lo Z 23)), .int (iz (x4)), .int (iz (dy_lev Z 24)), .int (iz (x5)), .ref mt, .ref cn])), (nw, .inl (T 0, 115, .inl (zA (mz Z))))] := by rw [← hZ]; exact hD
        have hZ : (x4 : Int) = dy_sp Z 23 := (by first | rfl | assumption)
        have hP : va_P D vwCl [(mm, .inr (7, [.ref nw, .ref pa, .int (iz (kp)), .ref zl, .ref hd, .ref pd, .int (iz (pn)), .int (iz (at0)), .ref os, .int (iz (od)), .int (iz (dy_dn Z 23)), .int (iz (dy_pu Z 23)), .int (iz (dy_lo Z 23)), .int (iz (dy_sp Z 23)), .int (iz (dy_lev Z 24)), .int (iz (x5)), .ref mt, .ref cn])), (nw, .inl (T 0, 115, .inl (zA (mz Z))))] H := by rw [← hZ]; exact hP
        have hD : va_D A [(mm, .inr (7, [.ref nw, .ref pa, .int (iz (kp)), .ref zl, .ref hd, .ref pd, .int (iz (pn)), .int (iz (at0)), .ref os, .int (iz (od)), .int (iz (dy_dn Z 23)), .int (iz (dy_pu Z 23)), .int (iz (dy_lo Z 23)), .int (iz (dy_sp Z 23)), .int (iz (dy_lev Z 24)), .int (iz (x5)), .ref mt, .ref cn])), (nw, .inl (T 0, 115, .inl (zA (mz Z))))] := by rw [← hZ]; exact hD
        have hZ : (dy_lev Z 24 : Int) = dy_le Z 23 := (by first | rfl | assumption)
        have hP : va_P D vwCl [(mm, .inr (7, [.ref nw, .ref pa, .int (iz (kp)), .ref zl, .ref hd, .ref pd, .int (iz (pn)), .int (iz (at0)), .ref os, .int (iz (od)), .int (iz (dy_dn Z 23)), .int (iz (dy_pu Z 23)), .int (iz (dy_lo Z 23)), .int (iz (dy_sp Z 23)), .int (iz (dy_le Z 23)), .int (iz (x5)), .ref mt, .ref cn])), (nw, .inl (T 0, 115, .inl (zA (mz Z))))] H := by rw [← hZ]; exact hP
        have hD : va_D A [(mm, .inr (7, [.ref nw, .ref pa, .int (iz (kp)), .ref zl, .ref hd, .ref pd, .int (iz (pn)), .int (iz (at0)), .ref os, .int (iz (od)), .int (iz (dy_dn Z 23)), .int (iz (dy_pu Z 23)), .int (iz (dy_lo Z 23)), .int (iz (dy_sp Z 23)), .int (iz (dy_le Z 23)), .int (iz (x5)), .ref mt, .ref cn])), (nw, .inl (T 0, 115, .inl (zA (mz Z))))] := by rw [← hZ]; exact hD
        have hZ : (x5 : Int) = lk_want Z (Z (58 + 23)) := (by first | rfl | assumption)
        have hP : va_P D vwCl [(mm, .inr (7, [.ref nw, .ref pa, .int (iz (kp)), .ref zl, .ref hd, .ref pd, .int (iz (pn)), .int (iz (at0)), .ref os, .int (iz (od)), .int (iz (dy_dn Z 23)), .int (iz (dy_pu Z 23)), .int (iz (dy_lo Z 23)), .int (iz (dy_sp Z 23)), .int (iz (dy_le Z 23)), .int (iz (lk_want Z (Z (58 + 23)))), .ref mt, .ref cn])), (nw, .inl (T 0, 115, .inl (zA (mz Z))))] H := by rw [← hZ]; exact hP
        have hD : va_D A [(mm, .inr (7, [.ref nw, .ref pa, .int (iz (kp)), .ref zl, .ref hd, .ref pd, .int (iz (pn)), .int (iz (at0)), .ref os, .int (iz (od)), .int (iz (dy_dn Z 23)), .int (iz (dy_pu Z 23)), .int (iz (dy_lo Z 23)), .int (iz (dy_sp Z 23)), .int (iz (dy_le Z 23)), .int (iz (lk_want Z (Z (58 + 23)))), .ref mt, .ref cn])), (nw, .inl (T 0, 115, .inl (zA (mz Z))))] := by rw [← hZ]; exact hD
        exact W.iret hx hb hr (fun t ht hW => ⟨⟨_, (), rfl, (congrArg iz (by rw [hda]; (repeat' split) <;> omega)), by show va_P _ _ _ t.heap; rw [ht]; exact hP⟩, hS.F ht⟩) hS.2.2 dX7_daily_104
    · have hlv := dy_lev_rng hV n (by omega)
      have hpl := hV.plan (h := n) (by omega)
      have hdy := dy_rng hV (n := n) (by omega)
      have hlo := lk_loss_rng hV (p := dy_pu Z n) hdy.2.2.2.2
      have hwr := lk_want_rng hV hpl
      refine lv_aload_n hx hb dX7_daily_30 rfl (lv_at hl 0 rfl) ?_
      refine lv_iload_n hx hb dX7_daily_31 rfl (lv_at hl 3 rfl) ?_
      refine lv_aload_n hx hb dX7_daily_32 rfl (lv_at hl 0 rfl) ?_
      refine va_get (D := D) (ci := 7) (C := RX7) (T := TX7) (N := 18) hx hb hts w2 hown hK.1 hP 0 rfl rfl 14 (by decide) w3 (fun _ h9 => h9) rfl dX7_daily_33 ?_
      refine lv_aload_n hx hb dX7_daily_36 rfl (lv_at hl 0 rfl) ?_
      refine va_get (D := D) (ci := 7) (C := RX7) (T := TX7) (N := 18) hx hb hts w2 hown hK.1 hP 0 rfl rfl 0 (by decide) w1 (fun _ h9 => h9) rfl dX7_daily_37 ?_
      refine lv_bipush (v := iz (58)) hx hb dX7_daily_40 (by decide) ?_
      refine lv_iload_n hx hb dX7_daily_42 rfl (lv_at hl 3 rfl) ?_
      refine kz_add hx hb dX7_daily_43 ?_
      refine kz_iald hx hb hK hP (1) rfl (58 + n) (by omega) (by omega) (by omega) dX7_daily_44 ?_
      refine kz_top (y := Z (58 + n)) (mz_lo (by omega)) ?_
      refine kc_wv (va_runV (As := [.int (iz (((n : Nat) : Int))), .int (iz (dy_lev Z n)), .int (iz (Z (58 + n)))]) (rest := []) ⟨hx, hb, hml, hown, hts⟩ (c_X7_goes l D T H.size mm nw pa kp zl hd pd pn at0 os od x1 x2 x3 x4 (dy_lev Z n) x5 mt cn Z n (by omega) (dy_lev Z n) (by omega) (Z (58 + n)) (by omega) hV) (cwV 3 hts gX7_daily_X7_goes rfl rfl rfl (by decide +kernel) ⟨Nat.le_of_ble_eq_true rfl, Nat.le_of_ble_eq_true rfl⟩) (kPc.v hK (va_recv hK.1 hP (ci := 7) (q0 := 0) rfl rfl) (kW.cut hP hD [0, 1] rfl (by rfl))) rfl rfl hl.1 rfl (lv_room (Nat.le_of_ble_eq_true rfl)) dX7_daily_45 ⟨Nat.zero_le _, Nat.zero_le _⟩) hP hD hS hA [0, 1] rfl (fun _ => rfl) (fun u H locs hr1 hP hD hS => ?_)
      have hP : va_P D vwCl [(mm, .inr (7, [.ref nw, .ref pa, .int (iz (kp)), .ref zl, .ref hd, .ref pd, .int (iz (pn)), .int (iz (at0)), .ref os, .int (iz (od)), .int (iz (hr_dn Z n (dy_lev Z n) (Z (58 + n)))), .int (iz (lk_pump (Z (58 + n)))), .int (iz (lk_loss Z (lk_pump (Z (58 + n))))), .int (iz (hr_sp Z n (dy_lev Z n) (Z (58 + n)))), .int (iz (hr_lv Z n (dy_lev Z n) (Z (58 + n)))), .int (iz (lk_want Z (Z (58 + n)))), .ref mt, .ref cn])), (nw, .inl (T 0, 115, .inl (zA (mz Z))))] H := hP
      have hD : va_D A [(mm, .inr (7, [.ref nw, .ref pa, .int (iz (kp)), .ref zl, .ref hd, .ref pd, .int (iz (pn)), .int (iz (at0)), .ref os, .int (iz (od)), .int (iz (hr_dn Z n (dy_lev Z n) (Z (58 + n)))), .int (iz (lk_pump (Z (58 + n)))), .int (iz (lk_loss Z (lk_pump (Z (58 + n))))), .int (iz (hr_sp Z n (dy_lev Z n) (Z (58 + n)))), .int (iz (hr_lv Z n (dy_lev Z n) (Z (58 + n)))), .int (iz (lk_want Z (Z (58 + n)))), .ref mt, .ref cn])), (nw, .inl (T 0, 115, .inl (zA (mz Z))))] := hD
      refine lv_iload_n hx hb dX7_daily_48 rfl (lv_at hl 2 rfl) ?_
      refine lv_aload_n hx hb dX7_daily_49 rfl (lv_at hl 0 rfl) ?_
      refine lv_iload_n hx hb dX7_daily_50 rfl (lv_at hl 3 rfl) ?_
      refine lv_iload_n hx hb dX7_daily_51 rfl (lv_at hl 1 rfl) ?_
      refine kc_i (va_runV (As := [.int (iz (((n : Nat) : Int))), .int (iz (w))]) (rest := [.int (iz ((if w = 0 then 10000000 else 0) + da_s Z w n))]) ⟨hx, hb, hml, hown, hts⟩ (c_X7_inHour l D T mm nw pa kp zl hd pd pn at0 os od (hr_dn Z n (dy_lev Z n) (Z (58 + n))) (lk_pump (Z (58 + n))) (lk_loss Z (lk_pump (Z (58 + n)))) (hr_sp Z n (dy_lev Z n) (Z (58 + n))) (hr_lv Z n (dy_lev Z n) (Z (58 + n))) (lk_want Z (Z (58 + n))) mt cn Z n (by omega) w (by omega) hV hdy.1 hwr (by have := hdy.2.1; show 0 ≤ dy_sp Z n ∧ dy_sp Z n ≤ 20000; omega) hdy.2.2.2.2 (by show 0 ≤ lk_loss Z (dy_pu Z n) ∧ lk_loss Z (dy_pu Z n) ≤ 30; omega)) (cwV 2 hts gX7_daily_X7_inHour rfl rfl rfl (by decide +kernel) ⟨Nat.le_of_ble_eq_true rfl, Nat.le_of_ble_eq_true rfl⟩) (kPc.v hK (va_recv hK.1 hP (ci := 7) (q0 := 0) rfl rfl) (kcut hP [0, 1] rfl)) rfl rfl hl.1 rfl (lv_room (Nat.le_of_ble_eq_true rfl)) dX7_daily_52 ⟨Nat.zero_le _, Nat.zero_le _⟩) (fun r2 hr2 => ?_)
      subst hr2
      have hdv := da_rng hV w n (by omega)
      refine kz_top (y := da_v Z w n) rfl ?_
      refine kz_add hx hb dX7_daily_55 ?_
      refine lv_istore_n (lv' := [(2, .int (iz (((if w = 0 then 10000000 else 0) + da_s Z w n) + (da_v Z w n)))), (0, .ref mm), (1, .int (iz (w))), (3, .int (iz (((n : Nat) : Int))))]) hx hb dX7_daily_56 rfl hl (by decide) rfl (fun ls hl => ?_)
      refine kz_iinc (b := ((n + 1 : Nat) : Int)) (lv' := [(3, .int (iz (((n + 1 : Nat) : Int)))), (2, .int (iz (((if w = 0 then 10000000 else 0) + da_s Z w n) + (da_v Z w n)))), (0, .ref mm), (1, .int (iz (w)))]) hx hb dX7_daily_57 hl (k := 3) rfl (by omega) (by decide) rfl (fun ls hl => ?_)
      refine lv_goto (tgt := 24) hx hb dX7_daily_60 (by decide) ?_
      have hl : lv_has ls 4 [(3, .int (iz (((n + 1 : Nat) : Int)))), (2, .int (iz ((if w = 0 then 10000000 else 0) + da_s Z w (n + 1)))), (0, .ref mm), (1, .int (iz (w)))] := by rw [← (show (((if w = 0 then 10000000 else 0) + da_s Z w n) + (da_v Z w n) : Int) = (if w = 0 then 10000000 else 0) + da_s Z w (n + 1) from (by show _ = _ + (da_s Z w n + da_v Z w n); omega))]; exact hl
      have hZ : (hr_dn Z n (dy_lev Z n) (Z (58 + n)) : Int) = (hr_dn Z n (dy_lev Z n) (Z (58 + n))) := (by first | rfl | omega)
      have hP : va_P D vwCl [(mm, .inr (7, [.ref nw, .ref pa, .int (iz (kp)), .ref zl, .ref hd, .ref pd, .int (iz (pn)), .int (iz (at0)), .ref os, .int (iz (od)), .int (iz ((hr_dn Z n (dy_lev Z n) (Z (58 + n))))), .int (iz (lk_pump (Z (58 + n)))), .int (iz (lk_loss Z (lk_pump (Z (58 + n))))), .int (iz (hr_sp Z n (dy_lev Z n) (Z (58 + n)))), .int (iz (hr_lv Z n (dy_lev Z n) (Z (58 + n)))), .int (iz (lk_want Z (Z (58 + n)))), .ref mt, .ref cn])), (nw, .inl (T 0, 115, .inl (zA (mz Z))))] H := by rw [← hZ]; exact hP
      have hD : va_D A [(mm, .inr (7, [.ref nw, .ref pa, .int (iz (kp)), .ref zl, .ref hd, .ref pd, .int (iz (pn)), .int (iz (at0)), .ref os, .int (iz (od)), .int (iz ((hr_dn Z n (dy_lev Z n) (Z (58 + n))))), .int (iz (lk_pump (Z (58 + n)))), .int (iz (lk_loss Z (lk_pump (Z (58 + n))))), .int (iz (hr_sp Z n (dy_lev Z n) (Z (58 + n)))), .int (iz (hr_lv Z n (dy_lev Z n) (Z (58 + n)))), .int (iz (lk_want Z (Z (58 + n)))), .ref mt, .ref cn])), (nw, .inl (T 0, 115, .inl (zA (mz Z))))] := by rw [← hZ]; exact hD
      have hZ : (lk_pump (Z (58 + n)) : Int) = (lk_pump (Z (58 + n))) := (by first | rfl | omega)
      have hP : va_P D vwCl [(mm, .inr (7, [.ref nw, .ref pa, .int (iz (kp)), .ref zl, .ref hd, .ref pd, .int (iz (pn)), .int (iz (at0)), .ref os, .int (iz (od)), .int (iz ((hr_dn Z n (dy_lev Z n) (Z (58 + n))))), .int (iz ((lk_pump (Z (58 + n))))), .int (iz (lk_loss Z (lk_pump (Z (58 + n))))), .int (iz (hr_sp Z n (dy_lev Z n) (Z (58 + n)))), .int (iz (hr_lv Z n (dy_lev Z n) (Z (58 + n)))), .int (iz (lk_want Z (Z (58 + n)))), .ref mt, .ref cn])), (nw, .inl (T 0, 115, .inl (zA (mz Z))))] H := by rw [← hZ]; exact hP
      have hD : va_D A [(mm, .inr (7, [.ref nw, .ref pa, .int (iz (kp)), .ref zl, .ref hd, .ref pd, .int (iz (pn)), .int (iz (at0)), .ref os, .int (iz (od)), .int (iz ((hr_dn Z n (dy_lev Z n) (Z (58 + n))))), .int (iz ((lk_pump (Z (58 + n))))), .int (iz (lk_loss Z (lk_pump (Z (58 + n))))), .int (iz (hr_sp Z n (dy_lev Z n) (Z (58 + n)))), .int (iz (hr_lv Z n (dy_lev Z n) (Z (58 + n)))), .int (iz (lk_want Z (Z (58 + n)))), .ref mt, .ref cn])), (nw, .inl (T 0, 115, .inl (zA (mz Z))))] := by rw [← hZ]; exact hD
      have hZ : (lk_loss Z (lk_pump (Z (58 + n))) : Int) = (lk_loss Z (lk_pump (Z (58 + n)))) := (by first | rfl | omega)
      have hP : va_P D vwCl [(mm, .inr (7, [.ref nw, .ref pa, .int (iz (kp)), .ref zl, .ref hd, .ref pd, .int (iz (pn)), .int (iz (at0)), .ref os, .int (iz (od)), .int (iz ((hr_dn Z n (dy_lev Z n) (Z (58 + n))))), .int (iz ((lk_pump (Z (58 + n))))), .int (iz ((lk_loss Z (lk_pump (Z (58 + n)))))), .int (iz (hr_sp Z n (dy_lev Z n) (Z (58 + n)))), .int (iz (hr_lv Z n (dy_lev Z n) (Z (58 + n)))), .int (iz (lk_want Z (Z (58 + n)))), .ref mt, .ref cn])), (nw, .inl (T 0, 115, .inl (zA (mz Z))))] H := by rw [← hZ]; exact hP
      have hD : va_D A [(mm, .inr (7, [.ref nw, .ref pa, .int (iz (kp)), .ref zl, .ref hd, .ref pd, .int (iz (pn)), .int (iz (at0)), .ref os, .int (iz (od)), .int (iz ((hr_dn Z n (dy_lev Z n) (Z (58 + n))))), .int (iz ((lk_pump (Z (58 + n))))), .int (iz ((lk_loss Z (lk_pump (Z (58 + n)))))), .int (iz (hr_sp Z n (dy_lev Z n) (Z (58 + n)))), .int (iz (hr_lv Z n (dy_lev Z n) (Z (58 + n)))), .int (iz (lk_want Z (Z (58 + n)))), .ref mt, .ref cn])), (nw, .inl (T 0, 115, .inl (zA (mz Z))))] := by rw [← hZ]; exact hD
      have hZ : (hr_sp Z n (dy_lev Z n) (Z (58 + n)) : Int) = (hr_sp Z n (dy_lev Z n) (Z (58 + n))) := (by first | rfl | omega)
      have hP : va_P D vwCl [(mm, .inr (7, [.ref nw, .ref pa, .int (iz (kp)), .ref zl, .ref hd, .ref pd, .int (iz (pn)), .int (iz (at0)), .ref os, .int (iz (od)), .int (iz ((hr_dn Z n (dy_lev Z n) (Z (58 + n))))), .int (iz ((lk_pump (Z (58 + n))))), .int (iz ((lk_loss Z (lk_pump (Z (58 + n)))))), .int (iz ((hr_sp Z n (dy_lev Z n) (Z (58 + n))))), .int (iz (hr_lv Z n (dy_lev Z n) (Z (58 + n)))), .int (iz (lk_want Z (Z (58 + n)))), .ref mt, .ref cn])), (nw, .inl (T 0, 115, .inl (zA (mz Z))))] H := by rw [← hZ]; exact hP
      have hD : va_D A [(mm, .inr (7, [.ref nw, .ref pa, .int (iz (kp)), .ref zl, .ref hd, .ref pd, .int (iz (pn)), .int (iz (at0)), .ref os, .int (iz (od)), .int (iz ((hr_dn Z n (dy_lev Z n) (Z (58 + n))))), .int (iz ((lk_pump (Z (58 + n))))), .int (iz ((lk_loss Z (lk_pump (Z (58 + n)))))), .int (iz ((hr_sp Z n (dy_lev Z n) (Z (58 + n))))), .int (iz (hr_lv Z n (dy_lev Z n) (Z (58 + n)))), .int (iz (lk_want Z (Z (58 + n)))), .ref mt, .ref cn])), (nw, .inl (T 0, 115, .inl (zA (mz Z))))] := by rw [← hZ]; exact hD
      have hZ : (hr_lv Z n (dy_lev Z n) (Z (58 + n)) : Int) = dy_lev Z (n + 1) := (by first | rfl | omega)
      have hP : va_P D vwCl [(mm, .inr (7, [.ref nw, .ref pa, .int (iz (kp)), .ref zl, .ref hd, .ref pd, .int (iz (pn)), .int (iz (at0)), .ref os, .int (iz (od)), .int (iz ((hr_dn Z n (dy_lev Z n) (Z (58 + n))))), .int (iz ((lk_pump (Z (58 + n))))), .int (iz ((lk_loss Z (lk_pump (Z (58 + n)))))), .int (iz ((hr_sp Z n (dy_lev Z n) (Z (58 + n))))), .int (iz (dy_lev Z (n + 1))), .int (iz (lk_want Z (Z (58 + n)))), .ref mt, .ref cn])), (nw, .inl (T 0, 115, .inl (zA (mz Z))))] H := by rw [← hZ]; exact hP
      have hD : va_D A [(mm, .inr (7, [.ref nw, .ref pa, .int (iz (kp)), .ref zl, .ref hd, .ref pd, .int (iz (pn)), .int (iz (at0)), .ref os, .int (iz (od)), .int (iz ((hr_dn Z n (dy_lev Z n) (Z (58 + n))))), .int (iz ((lk_pump (Z (58 + n))))), .int (iz ((lk_loss Z (lk_pump (Z (58 + n)))))), .int (iz ((hr_sp Z n (dy_lev Z n) (Z (58 + n))))), .int (iz (dy_lev Z (n + 1))), .int (iz (lk_want Z (Z (58 + n)))), .ref mt, .ref cn])), (nw, .inl (T 0, 115, .inl (zA (mz Z))))] := by rw [← hZ]; exact hD
      have hZ : (lk_want Z (Z (58 + n)) : Int) = (lk_want Z (Z (58 + n))) := rfl
      have hP : va_P D vwCl [(mm, .inr (7, [.ref nw, .ref pa, .int (iz (kp)), .ref zl, .ref hd, .ref pd, .int (iz (pn)), .int (iz (at0)), .ref os, .int (iz (od)), .int (iz ((hr_dn Z n (dy_lev Z n) (Z (58 + n))))), .int (iz ((lk_pump (Z (58 + n))))), .int (iz ((lk_loss Z (lk_pump (Z (58 + n)))))), .int (iz ((hr_sp Z n (dy_lev Z n) (Z (58 + n))))), .int (iz (dy_lev Z (n + 1))), .int (iz ((lk_want Z (Z (58 + n))))), .ref mt, .ref cn])), (nw, .inl (T 0, 115, .inl (zA (mz Z))))] H := by rw [← hZ]; exact hP
      have hD : va_D A [(mm, .inr (7, [.ref nw, .ref pa, .int (iz (kp)), .ref zl, .ref hd, .ref pd, .int (iz (pn)), .int (iz (at0)), .ref os, .int (iz (od)), .int (iz ((hr_dn Z n (dy_lev Z n) (Z (58 + n))))), .int (iz ((lk_pump (Z (58 + n))))), .int (iz ((lk_loss Z (lk_pump (Z (58 + n)))))), .int (iz ((hr_sp Z n (dy_lev Z n) (Z (58 + n))))), .int (iz (dy_lev Z (n + 1))), .int (iz ((lk_want Z (Z (58 + n))))), .ref mt, .ref cn])), (nw, .inl (T 0, 115, .inl (zA (mz Z))))] := by rw [← hZ]; exact hD
      exact ih24 (n + 1) (hr_dn Z n (dy_lev Z n) (Z (58 + n))) (lk_pump (Z (58 + n))) (lk_loss Z (lk_pump (Z (58 + n)))) (hr_sp Z n (dy_lev Z n) (Z (58 + n))) (lk_want Z (Z (58 + n))) _ _ _ ⟨(by omega), (fun _ => by rw [Nat.add_sub_cancel]; exact ⟨rfl, rfl, rfl, rfl, rfl⟩), hP, hD, hS, lv_sub hl [2, 3, 1, 0] rfl⟩ (by omega)
set_option maxHeartbeats 4000000 in
set_option maxRecDepth 100000 in
theorem c_X7_day (l : Launch) (D : va_G) (T : Nat → ClassId) (sz : Nat) (mm : Nat) (nw : Nat) (pa : Nat) (kp : Int) (zl : Nat) (hd : Nat) (pd : Nat) (pn : Int) (at0 : Int) (os : Nat) (od : Int) (dn : Int) (pu : Int) (lo2 : Int) (sp2 : Int) (lv2 : Int) (wa : Int) (mt : Nat) (cn : Nat) (Z : Nat → Int) (b : Int) (hib : -2147483648 ≤ b ∧ b < 2147483648) (hV : VL Z) : Met l yX7_day wsX7_day ({ frames := 5, cells := 0, slots := 0, locals := 113 }) (kPc D T [.ref mm, .int (iz (b))] (kW D sz [(mm, .inr (7, [.ref nw, .ref pa, .int (iz (kp)), .ref zl, .ref hd, .ref pd, .int (iz (pn)), .int (iz (at0)), .ref os, .int (iz (od)), .int (iz (dn)), .int (iz (pu)), .int (iz (lo2)), .int (iz (sp2)), .int (iz (lv2)), .int (iz (wa)), .ref mt, .ref cn])), (nw, .inl (T 0, 115, .inl (zA (mz Z))))])) (va_Qi (fun (r : Int32) (u : Int × Int × Int × Int × Int × Int) => r = iz (pl_day Z b)) (fun (u : Int × Int × Int × Int × Int × Int) (t : State) => va_P D vwCl [(mm, .inr (7, [.ref nw, .ref pa, .int (iz (kp)), .ref zl, .ref hd, .ref pd, .int (iz (pn)), .int (iz (at0)), .ref os, .int (iz (od)), .int (iz (u.1)), .int (iz (u.2.1)), .int (iz (u.2.2.1)), .int (iz (u.2.2.2.1)), .int (iz (u.2.2.2.2.1)), .int (iz (u.2.2.2.2.2)), .ref mt, .ref cn])), (nw, .inl (T 0, 115, .inl (zA (mz Z))))] t.heap) (va_A [(mm, .inr (7, [.ref nw, .ref pa, .int (iz (kp)), .ref zl, .ref hd, .ref pd, .int (iz (pn)), .int (iz (at0)), .ref os, .int (iz (od)), .int (iz (dn)), .int (iz (pu)), .int (iz (lo2)), .int (iz (sp2)), .int (iz (lv2)), .int (iz (wa)), .ref mt, .ref cn])), (nw, .inl (T 0, 115, .inl (zA (mz Z))))] sz)) 0 0 (va_A [(mm, .inr (7, [.ref nw, .ref pa, .int (iz (kp)), .ref zl, .ref hd, .ref pd, .int (iz (pn)), .int (iz (at0)), .ref os, .int (iz (od)), .int (iz (dn)), .int (iz (pu)), .int (iz (lo2)), .int (iz (sp2)), .int (iz (lv2)), .int (iz (wa)), .ref mt, .ref cn])), (nw, .inl (T 0, 115, .inl (zA (mz Z))))] sz) := by
  refine Met.ofW (cc := cX7_day) (maxL := 2) (ret := (some .int)) (by decide) rfl ?_
  intro p e s m args below meth c s₁ B hml hv
  obtain ⟨rfl, hK, hsz, hP, hD0⟩ := hv
  have hx := B.exec
  have hb := B.bytes
  have hr := B.returns
  have hts := atoms_spec (ws := wsX7_day) B.pre
  have hown : s.vm.findClass RX7 = some m.cls := findClass_of_methodNamed B.named
  have hlocks := B.notSynchronized
  subst hsz
  have hD := hD0.self (sz := s.heap.size)
  generalize hAe : va_A [(mm, .inr (7, [.ref nw, .ref pa, .int (iz (kp)), .ref zl, .ref hd, .ref pd, .int (iz (pn)), .int (iz (at0)), .ref os, .int (iz (od)), .int (iz (dn)), .int (iz (pu)), .int (iz (lo2)), .int (iz (sp2)), .int (iz (lv2)), .int (iz (wa)), .ref mt, .ref cn])), (nw, .inl (T 0, 115, .inl (zA (mz Z))))] s.heap.size = A at hD ⊢
  have hA : ∀ q : Nat, s.heap.size ≤ q → A q := fun q h => by rw [← hAe]; exact Or.inr h
  have hS : va_S A s.heap s.heap [] := va_S.rf
  have hP : va_P D vwCl [(mm, .inr (7, [.ref nw, .ref pa, .int (iz (kp)), .ref zl, .ref hd, .ref pd, .int (iz (pn)), .int (iz (at0)), .ref os, .int (iz (od)), .int (iz (dn)), .int (iz (pu)), .int (iz (lo2)), .int (iz (sp2)), .int (iz (lv2)), .int (iz (wa)), .ref mt, .ref cn])), (nw, .inl (T 0, 115, .inl (zA (mz Z))))] s.heap := hP
  have hl := lv_entry ([.ref mm, .int (iz (b))]) (n := 2) (Nat.le_of_ble_eq_true rfl)
  rw [lg_entry_eq]
  generalize (lg_sl ([.ref mm, .int (iz (b))]) ++ List.replicate (2 - (lg_sl ([.ref mm, .int (iz (b))])).length) Slot.unset).toArray = ls at hl ⊢
  have hl : lv_has ls 2 [(0, .ref mm), (1, .int (iz (b)))] := hl
  refine lv_iload_n hx hb dX7_day_0 rfl (lv_at hl 1 rfl) ?_
  refine lv_iconst (v := iz (0)) hx hb dX7_day_1 (by decide) ?_
  refine lv_bipush (v := iz (10)) hx hb dX7_day_2 (by decide) ?_
  refine kc_i (va_runS (As := [.int (iz (b)), .int (iz (0)), .int (iz (10))]) (rest := []) ⟨hx, hb, hml, hown, hts⟩ (c_X7_in l D T b 0 10 (by omega) (by omega) (by omega)) (va_cwS 3 hts gX7_day_X7_in rfl rfl rfl (by decide +kernel) ⟨Nat.le_of_ble_eq_true rfl, Nat.le_of_ble_eq_true rfl⟩) (kPc.s hK (kcut hP [] rfl)) rfl rfl hl.1 rfl (lv_room (Nat.le_of_ble_eq_true rfl)) dX7_day_4 ⟨Nat.zero_le _, Nat.zero_le _⟩) (fun r1 hr1 => ?_)
  subst hr1
  refine kz_if_eq (tgt := 18) hx hb dX7_day_7 (by decide) (by omega) (fun c7 => ?_) (fun c7 => ?_)
  · refine lv_bipush (v := iz (-2)) hx hb dX7_day_18 (by decide) ?_
    exact W.iret hx hb hr (fun t ht hW => ⟨⟨_, (dn, pu, lo2, sp2, lv2, wa), rfl, (congrArg iz (pl_day_out (by omega)).symm), by show va_P _ _ _ t.heap; rw [ht]; exact hP⟩, hS.F ht⟩) hS.2.2 dX7_day_20
  · refine lv_aload_n hx hb dX7_day_10 rfl (lv_at hl 0 rfl) ?_
    refine lv_iload_n hx hb dX7_day_11 rfl (lv_at hl 1 rfl) ?_
    refine kc_wi (va_runV (As := [.int (iz (b))]) (rest := []) ⟨hx, hb, hml, hown, hts⟩ (c_X7_daily l D T s.heap.size mm nw pa kp zl hd pd pn at0 os od dn pu lo2 sp2 lv2 wa mt cn Z b (by omega) hV) (cwV 1 hts gX7_day_X7_daily rfl rfl rfl (by decide +kernel) ⟨Nat.le_of_ble_eq_true rfl, Nat.le_of_ble_eq_true rfl⟩) (kPc.v hK (va_recv hK.1 hP (ci := 7) (q0 := 0) rfl rfl) (kW.cut hP hD [0, 1] rfl (by rfl))) rfl rfl hl.1 rfl (lv_room (Nat.le_of_ble_eq_true rfl)) dX7_day_12 ⟨Nat.zero_le _, Nat.zero_le _⟩) hP hD hS hA [0, 1] rfl (fun _ => rfl) (fun r2 u H locs hr2 hP hD hS => ?_)
    have hP : va_P D vwCl [(mm, .inr (7, [.ref nw, .ref pa, .int (iz (kp)), .ref zl, .ref hd, .ref pd, .int (iz (pn)), .int (iz (at0)), .ref os, .int (iz (od)), .int (iz (dy_dn Z 23)), .int (iz (dy_pu Z 23)), .int (iz (dy_lo Z 23)), .int (iz (dy_sp Z 23)), .int (iz (dy_le Z 23)), .int (iz (lk_want Z (Z (58 + 23)))), .ref mt, .ref cn])), (nw, .inl (T 0, 115, .inl (zA (mz Z))))] H := hP
    have hD : va_D A [(mm, .inr (7, [.ref nw, .ref pa, .int (iz (kp)), .ref zl, .ref hd, .ref pd, .int (iz (pn)), .int (iz (at0)), .ref os, .int (iz (od)), .int (iz (dy_dn Z 23)), .int (iz (dy_pu Z 23)), .int (iz (dy_lo Z 23)), .int (iz (dy_sp Z 23)), .int (iz (dy_le Z 23)), .int (iz (lk_want Z (Z (58 + 23)))), .ref mt, .ref cn])), (nw, .inl (T 0, 115, .inl (zA (mz Z))))] := hD
    subst hr2
    refine lv_goto (tgt := 20) hx hb dX7_day_15 (by decide) ?_
    have hZ : (dy_dn Z 23 : Int) = (dy_dn Z 23) := (by first | rfl | omega)
    have hP : va_P D vwCl [(mm, .inr (7, [.ref nw, .ref pa, .int (iz (kp)), .ref zl, .ref hd, .ref pd, .int (iz (pn)), .int (iz (at0)), .ref os, .int (iz (od)), .int (iz ((dy_dn Z 23))), .int (iz (dy_pu Z 23)), .int (iz (dy_lo Z 23)), .int (iz (dy_sp Z 23)), .int (iz (dy_le Z 23)), .int (iz (lk_want Z (Z (58 + 23)))), .ref mt, .ref cn])), (nw, .inl (T 0, 115, .inl (zA (mz Z))))] H := by rw [← hZ]; exact hP
    have hD : va_D A [(mm, .inr (7, [.ref nw, .ref pa, .int (iz (kp)), .ref zl, .ref hd, .ref pd, .int (iz (pn)), .int (iz (at0)), .ref os, .int (iz (od)), .int (iz ((dy_dn Z 23))), .int (iz (dy_pu Z 23)), .int (iz (dy_lo Z 23)), .int (iz (dy_sp Z 23)), .int (iz (dy_le Z 23)), .int (iz (lk_want Z (Z (58 + 23)))), .ref mt, .ref cn])), (nw, .inl (T 0, 115, .inl (zA (mz Z))))] := by rw [← hZ]; exact hD
    have hZ : (dy_pu Z 23 : Int) = (dy_pu Z 23) := (by first | rfl | omega)
    have hP : va_P D vwCl [(mm, .inr (7, [.ref nw, .ref pa, .int (iz (kp)), .ref zl, .ref hd, .ref pd, .int (iz (pn)), .int (iz (at0)), .ref os, .int (iz (od)), .int (iz ((dy_dn Z 23))), .int (iz ((dy_pu Z 23))), .int (iz (dy_lo Z 23)), .int (iz (dy_sp Z 23)), .int (iz (dy_le Z 23)), .int (iz (lk_want Z (Z (58 + 23)))), .ref mt, .ref cn])), (nw, .inl (T 0, 115, .inl (zA (mz Z))))] H := by rw [← hZ]; exact hP
    have hD : va_D A [(mm, .inr (7, [.ref nw, .ref pa, .int (iz (kp)), .ref zl, .ref hd, .ref pd, .int (iz (pn)), .int (iz (at0)), .ref os, .int (iz (od)), .int (iz ((dy_dn Z 23))), .int (iz ((dy_pu Z 23))), .int (iz (dy_lo Z 23)), .int (iz (dy_sp Z 23)), .int (iz (dy_le Z 23)), .int (iz (lk_want Z (Z (58 + 23)))), .ref mt, .ref cn])), (nw, .inl (T 0, 115, .inl (zA (mz Z))))] := by rw [← hZ]; exact hD
    have hZ : (dy_lo Z 23 : Int) = (dy_lo Z 23) := (by first | rfl | omega)
    have hP : va_P D vwCl [(mm, .inr (7, [.ref nw, .ref pa, .int (iz (kp)), .ref zl, .ref hd, .ref pd, .int (iz (pn)), .int (iz (at0)), .ref os, .int (iz (od)), .int (iz ((dy_dn Z 23))), .int (iz ((dy_pu Z 23))), .int (iz ((dy_lo Z 23))), .int (iz (dy_sp Z 23)), .int (iz (dy_le Z 23)), .int (iz (lk_want Z (Z (58 + 23)))), .ref mt, .ref cn])), (nw, .inl (T 0, 115, .inl (zA (mz Z))))] H := by rw [← hZ]; exact hP
    have hD : va_D A [(mm, .inr (7, [.ref nw, .ref pa, .int (iz (kp)), .ref zl, .ref hd, .ref pd, .int (iz (pn)), .int (iz (at0)), .ref os, .int (iz (od)), .int (iz ((dy_dn Z 23))), .int (iz ((dy_pu Z 23))), .int (iz ((dy_lo Z 23))), .int (iz (dy_sp Z 23)), .int (iz (dy_le Z 23)), .int (iz (lk_want Z (Z (58 + 23)))), .ref mt, .ref cn])), (nw, .inl (T 0, 115, .inl (zA (mz Z))))] := by rw [← hZ]; exact hD
    have hZ : (dy_sp Z 23 : Int) = (dy_sp Z 23) := (by first | rfl | omega)
    have hP : va_P D vwCl [(mm, .inr (7, [.ref nw, .ref pa, .int (iz (kp)), .ref zl, .ref hd, .ref pd, .int (iz (pn)), .int (iz (at0)), .ref os, .int (iz (od)), .int (iz ((dy_dn Z 23))), .int (iz ((dy_pu Z 23))), .int (iz ((dy_lo Z 23))), .int (iz ((dy_sp Z 23))), .int (iz (dy_le Z 23)), .int (iz (lk_want Z (Z (58 + 23)))), .ref mt, .ref cn])), (nw, .inl (T 0, 115, .inl (zA (mz Z))))] H := by rw [← hZ]; exact hP
    have hD : va_D A [(mm, .inr (7, [.ref nw, .ref pa, .int (iz (kp)), .ref zl, .ref hd, .ref pd, .int (iz (pn)), .int (iz (at0)), .ref os, .int (iz (od)), .int (iz ((dy_dn Z 23))), .int (iz ((dy_pu Z 23))), .int (iz ((dy_lo Z 23))), .int (iz ((dy_sp Z 23))), .int (iz (dy_le Z 23)), .int (iz (lk_want Z (Z (58 + 23)))), .ref mt, .ref cn])), (nw, .inl (T 0, 115, .inl (zA (mz Z))))] := by rw [← hZ]; exact hD
    have hZ : (dy_le Z 23 : Int) = (dy_le Z 23) := (by first | rfl | omega)
    have hP : va_P D vwCl [(mm, .inr (7, [.ref nw, .ref pa, .int (iz (kp)), .ref zl, .ref hd, .ref pd, .int (iz (pn)), .int (iz (at0)), .ref os, .int (iz (od)), .int (iz ((dy_dn Z 23))), .int (iz ((dy_pu Z 23))), .int (iz ((dy_lo Z 23))), .int (iz ((dy_sp Z 23))), .int (iz ((dy_le Z 23))), .int (iz (lk_want Z (Z (58 + 23)))), .ref mt, .ref cn])), (nw, .inl (T 0, 115, .inl (zA (mz Z))))] H := by rw [← hZ]; exact hP
    have hD : va_D A [(mm, .inr (7, [.ref nw, .ref pa, .int (iz (kp)), .ref zl, .ref hd, .ref pd, .int (iz (pn)), .int (iz (at0)), .ref os, .int (iz (od)), .int (iz ((dy_dn Z 23))), .int (iz ((dy_pu Z 23))), .int (iz ((dy_lo Z 23))), .int (iz ((dy_sp Z 23))), .int (iz ((dy_le Z 23))), .int (iz (lk_want Z (Z (58 + 23)))), .ref mt, .ref cn])), (nw, .inl (T 0, 115, .inl (zA (mz Z))))] := by rw [← hZ]; exact hD
    have hZ : (lk_want Z (Z (58 + 23)) : Int) = (lk_want Z (Z (58 + 23))) := (by first | rfl | omega)
    have hP : va_P D vwCl [(mm, .inr (7, [.ref nw, .ref pa, .int (iz (kp)), .ref zl, .ref hd, .ref pd, .int (iz (pn)), .int (iz (at0)), .ref os, .int (iz (od)), .int (iz ((dy_dn Z 23))), .int (iz ((dy_pu Z 23))), .int (iz ((dy_lo Z 23))), .int (iz ((dy_sp Z 23))), .int (iz ((dy_le Z 23))), .int (iz ((lk_want Z (Z (58 + 23))))), .ref mt, .ref cn])), (nw, .inl (T 0, 115, .inl (zA (mz Z))))] H := by rw [← hZ]; exact hP
    have hD : va_D A [(mm, .inr (7, [.ref nw, .ref pa, .int (iz (kp)), .ref zl, .ref hd, .ref pd, .int (iz (pn)), .int (iz (at0)), .ref os, .int (iz (od)), .int (iz ((dy_dn Z 23))), .int (iz ((dy_pu Z 23))), .int (iz ((dy_lo Z 23))), .int (iz ((dy_sp Z 23))), .int (iz ((dy_le Z 23))), .int (iz ((lk_want Z (Z (58 + 23))))), .ref mt, .ref cn])), (nw, .inl (T 0, 115, .inl (zA (mz Z))))] := by rw [← hZ]; exact hD
    exact W.iret hx hb hr (fun t ht hW => ⟨⟨_, (dy_dn Z 23, dy_pu Z 23, dy_lo Z 23, dy_sp Z 23, dy_le Z 23, lk_want Z (Z (58 + 23))), rfl, (congrArg iz rfl), by show va_P _ _ _ t.heap; rw [ht]; exact hP⟩, hS.F ht⟩) hS.2.2 dX7_day_20
