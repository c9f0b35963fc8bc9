set_option maxHeartbeats 4000000 in
set_option maxRecDepth 100000 in
theorem c_X7_isAt (l : Launch) (D : va_G) (T : Nat → ClassId) (mm : Nat) (nw : Nat) (pa : Nat) (kp : Int) (zl : Nat) (hd : Nat) (pd : Nat) (os : Nat) (od : Int) (dn : Int) (pu : Int) (lo2 : Int) (sp2 : Int) (lv2 : Int) (wa : Int) (mt : Nat) (cn : Nat) (P : Nat → Int) (n : Nat) (hVP : VP P n) (i : Nat) (hi : i ≤ n) (a : Int) (b : Int) (hab : 1 ≤ a ∧ a ≤ 1000 ∧ 0 ≤ b ∧ b ≤ 1000) : Met l yX7_isAt wsX7_isAt ({ frames := 1, cells := 0, slots := 0, locals := 22 }) (kPc D T [.ref mm, .int (iz (a)), .int (iz (b))] (va_P D vwCl [(mm, .inr (7, [.ref nw, .ref pa, .int (iz (kp)), .ref zl, .ref hd, .ref pd, .int (iz (((n : Nat) : Int))), .int (iz (((i : Nat) : Int))), .ref os, .int (iz (od)), .int (iz (dn)), .int (iz (pu)), .int (iz (lo2)), .int (iz (sp2)), .int (iz (lv2)), .int (iz (wa)), .ref mt, .ref cn])), (pd, .inl (T 0, 80, .inl (zA P)))])) (vp_Si (fun r : Int32 => r = iz (if a ≤ pd_s P n i ∧ pd_s P n i ≤ b then 1 else 0))) 0 0 (fun _ => False) := by
  refine Met.ofW (cc := cX7_isAt) (maxL := 3) (ret := (some .boolean)) (by decide) rfl ?_
  intro p e s m args below meth c s₁ B hml hv
  obtain ⟨rfl, hK, hP⟩ := hv
  have hx := B.exec
  have hb := B.bytes
  have hr := B.returns
  have hts := atoms_spec (ws := wsX7_isAt) B.pre
  have hown : s.vm.findClass RX7 = some m.cls := findClass_of_methodNamed B.named
  have hlocks := B.notSynchronized
  have w0 := hts (.fieldLink RX7 165 "LakePlantModel" "at" "I") (List.mem_of_getElem? (i := 1) rfl)
  have w1 : ∀ w ∈ wsX70, w ∈ wsX7_isAt := by decide +kernel
  have w2 := hts (.fieldLink RX7 152 "LakePlantModel" "padded" "I") (List.mem_of_getElem? (i := 2) rfl)
  have w3 := hts (.fieldLink RX7 23 "LakePlantModel" "pad" "[I") (List.mem_of_getElem? (i := 3) rfl)
  have hP : va_P D vwCl [(mm, .inr (7, [.ref nw, .ref pa, .int (iz (kp)), .ref zl, .ref hd, .ref pd, .int (iz (((n : Nat) : Int))), .int (iz (((i : Nat) : Int))), .ref os, .int (iz (od)), .int (iz (dn)), .int (iz (pu)), .int (iz (lo2)), .int (iz (sp2)), .int (iz (lv2)), .int (iz (wa)), .ref mt, .ref cn])), (pd, .inl (T 0, 80, .inl (zA P)))] s.heap := hP
  have hl := lv_entry ([.ref mm, .int (iz (a)), .int (iz (b))]) (n := 3) (Nat.le_of_ble_eq_true rfl)
  rw [lg_entry_eq]
  generalize (lg_sl ([.ref mm, .int (iz (a)), .int (iz (b))]) ++ List.replicate (3 - (lg_sl ([.ref mm, .int (iz (a)), .int (iz (b))])).length) Slot.unset).toArray = ls at hl ⊢
  have hl : lv_has ls 3 [(0, .ref mm), (1, .int (iz (a))), (2, .int (iz (b)))] := hl
  have hn80 := hVP.1
  have hs0 := pd_s_rng hVP i
  refine lv_aload_n hx hb dX7_isAt_0 rfl (lv_at hl 0 rfl) ?_
  refine va_get (D := D) (ci := 7) (C := RX7) (T := TX7) (N := 18) hx hb hts w1 hown hK.1 hP 0 rfl rfl 7 (by decide) w0 (fun _ h9 => h9) rfl dX7_isAt_1 ?_
  refine lv_aload_n hx hb dX7_isAt_4 rfl (lv_at hl 0 rfl) ?_
  refine va_get (D := D) (ci := 7) (C := RX7) (T := TX7) (N := 18) hx hb hts w1 hown hK.1 hP 0 rfl rfl 6 (by decide) w2 (fun _ h9 => h9) rfl dX7_isAt_5 ?_
  refine kz_icmp_ge (tgt := 32) hx hb dX7_isAt_8 (by decide) (by omega) (by omega) (fun c8 => ?_) (fun c8 => ?_)
  · refine lv_iconst (v := iz (0)) hx hb dX7_isAt_32 (by decide) ?_
    exact W.zret hx hb hr (kz_nar (by omega)) (fun t ht _ => ⟨_, rfl, (congrArg iz (by rw [if_neg (by omega)])), ht⟩) (fun _ h => absurd h List.not_mem_nil) dX7_isAt_33
  · have hpi : P i = pd_s P n i := by unfold pd_s; rw [if_pos (by omega)]
    refine lv_aload_n hx hb dX7_isAt_11 rfl (lv_at hl 0 rfl) ?_
    refine va_get (D := D) (ci := 7) (C := RX7) (T := TX7) (N := 18) hx hb hts w1 hown hK.1 hP 0 rfl rfl 5 (by decide) w3 (fun _ h9 => h9) rfl dX7_isAt_12 ?_
    refine lv_aload_n hx hb dX7_isAt_15 rfl (lv_at hl 0 rfl) ?_
    refine va_get (D := D) (ci := 7) (C := RX7) (T := TX7) (N := 18) hx hb hts w1 hown hK.1 hP 0 rfl rfl 7 (by decide) w0 (fun _ h9 => h9) rfl dX7_isAt_16 ?_
    refine kz_iald hx hb hK hP (1) rfl (i) (by omega) (by omega) (by omega) dX7_isAt_19 ?_
    refine lv_iload_n hx hb dX7_isAt_20 rfl (lv_at hl 1 rfl) ?_
    refine lv_iload_n hx hb dX7_isAt_21 rfl (lv_at hl 2 rfl) ?_
    refine kc_i (va_runS (As := [.int (iz (P i)), .int (iz (a)), .int (iz (b))]) (rest := []) ⟨hx, hb, hml, hown, hts⟩ (c_X7_in l D T (P i) a b (by omega) (by omega) (by omega)) (va_cwS 3 hts gX7_isAt_X7_in rfl rfl rfl (by decide +kernel) ⟨Nat.le_of_ble_eq_true rfl, Nat.le_of_ble_eq_true rfl⟩) (kPc.s hK (kcut hP [] rfl)) rfl rfl hl.1 rfl (lv_room (Nat.le_of_ble_eq_true rfl)) dX7_isAt_22 ⟨Nat.zero_le _, Nat.zero_le _⟩) (fun r1 hr1 => ?_)
    subst hr1
    refine kz_if_eq (tgt := 32) hx hb dX7_isAt_25 (by decide) (by omega) (fun c25 => ?_) (fun c25 => ?_)
    · refine lv_iconst (v := iz (0)) hx hb dX7_isAt_32 (by decide) ?_
      exact W.zret hx hb hr (kz_nar (by omega)) (fun t ht _ => ⟨_, rfl, (congrArg iz (by rw [if_neg (by omega)])), ht⟩) (fun _ h => absurd h List.not_mem_nil) dX7_isAt_33
    · refine lv_iconst (v := iz (1)) hx hb dX7_isAt_28 (by decide) ?_
      refine lv_goto (tgt := 33) hx hb dX7_isAt_29 (by decide) ?_
      exact W.zret hx hb hr (kz_nar (by omega)) (fun t ht _ => ⟨_, rfl, (congrArg iz (by rw [if_pos (by omega)])), ht⟩) (fun _ h => absurd h List.not_mem_nil) dX7_isAt_33
set_option maxHeartbeats 4000000 in
set_option maxRecDepth 100000 in
theorem c_X7_isSign (l : Launch) (D : va_G) (T : Nat → ClassId) (sz : Nat) (mm : Nat) (nw : Nat) (pa : Nat) (kp : Int) (zl : Nat) (hd : Nat) (pd : Nat) (os : Nat) (od : Int) (dn : Int) (pu : Int) (lo2 : Int) (sp2 : Int) (lv2 : Int) (wa : Int) (mt : Nat) (cn : Nat) (P : Nat → Int) (n : Nat) (hVP : VP P n) (i : Nat) (hi : i ≤ n) (a : Int) (ha1 : 1 ≤ a ∧ a ≤ 1000) : Met l yX7_isSign wsX7_isSign ({ frames := 2, cells := 0, slots := 0, locals := 44 }) (kPc D T [.ref mm, .int (iz (a))] (kW D sz [(mm, .inr (7, [.ref nw, .ref pa, .int (iz (kp)), .ref zl, .ref hd, .ref pd, .int (iz (((n : Nat) : Int))), .int (iz (((i : Nat) : Int))), .ref os, .int (iz (od)), .int (iz (dn)), .int (iz (pu)), .int (iz (lo2)), .int (iz (sp2)), .int (iz (lv2)), .int (iz (wa)), .ref mt, .ref cn])), (pd, .inl (T 0, 80, .inl (zA P)))])) (va_Qi (fun (r : Int32) (u : Unit) => r = iz (if pd_s P n i = a then 1 else 0)) (fun (u : Unit) (t : State) => va_P D vwCl [(mm, .inr (7, [.ref nw, .ref pa, .int (iz (kp)), .ref zl, .ref hd, .ref pd, .int (iz (((n : Nat) : Int))), .int (iz (((if pd_s P n i = a then i + 1 else i : Nat) : Int))), .ref os, .int (iz (od)), .int (iz (dn)), .int (iz (pu)), .int (iz (lo2)), .int (iz (sp2)), .int (iz (lv2)), .int (iz (wa)), .ref mt, .ref cn])), (pd, .inl (T 0, 80, .inl (zA P)))] t.heap) (va_A [(mm, .inr (7, [.ref nw, .ref pa, .int (iz (kp)), .ref zl, .ref hd, .ref pd, .int (iz (((n : Nat) : Int))), .int (iz (((i : Nat) : Int))), .ref os, .int (iz (od)), .int (iz (dn)), .int (iz (pu)), .int (iz (lo2)), .int (iz (sp2)), .int (iz (lv2)), .int (iz (wa)), .ref mt, .ref cn])), (pd, .inl (T 0, 80, .inl (zA P)))] sz)) 0 0 (va_A [(mm, .inr (7, [.ref nw, .ref pa, .int (iz (kp)), .ref zl, .ref hd, .ref pd, .int (iz (((n : Nat) : Int))), .int (iz (((i : Nat) : Int))), .ref os, .int (iz (od)), .int (iz (dn)), .int (iz (pu)), .int (iz (lo2)), .int (iz (sp2)), .int (iz (lv2)), .int (iz (wa)), .ref mt, .ref cn])), (pd, .inl (T 0, 80, .inl (zA P)))] sz) := by
  refine Met.ofW (cc := cX7_isSign) (maxL := 3) (ret := (some .boolean)) (by decide) rfl ?_
  intro p e s m args below meth c s₁ B hml hv
  obtain ⟨rfl, hK, hsz, hP, hD0⟩ := hv
  have hx := B.exec
  have hb := B.bytes
  have hr := B.returns
  have hts := atoms_spec (ws := wsX7_isSign) B.pre
  have hown : s.vm.findClass RX7 = some m.cls := findClass_of_methodNamed B.named
  have hlocks := B.notSynchronized
  have w0 := hts (.fieldLink RX7 165 "LakePlantModel" "at" "I") (List.mem_of_getElem? (i := 1) rfl)
  have w1 : ∀ w ∈ wsX70, w ∈ wsX7_isSign := by decide +kernel
  subst hsz
  have hD := hD0.self (sz := s.heap.size)
  generalize hAe : va_A [(mm, .inr (7, [.ref nw, .ref pa, .int (iz (kp)), .ref zl, .ref hd, .ref pd, .int (iz (((n : Nat) : Int))), .int (iz (((i : Nat) : Int))), .ref os, .int (iz (od)), .int (iz (dn)), .int (iz (pu)), .int (iz (lo2)), .int (iz (sp2)), .int (iz (lv2)), .int (iz (wa)), .ref mt, .ref cn])), (pd, .inl (T 0, 80, .inl (zA P)))] s.heap.size = A at hD ⊢
  have hA : ∀ q : Nat, s.heap.size ≤ q → A q := fun q h => by rw [← hAe]; exact Or.inr h
  have hS : va_S A s.heap s.heap [] := va_S.rf
  have hP : va_P D vwCl [(mm, .inr (7, [.ref nw, .ref pa, .int (iz (kp)), .ref zl, .ref hd, .ref pd, .int (iz (((n : Nat) : Int))), .int (iz (((i : Nat) : Int))), .ref os, .int (iz (od)), .int (iz (dn)), .int (iz (pu)), .int (iz (lo2)), .int (iz (sp2)), .int (iz (lv2)), .int (iz (wa)), .ref mt, .ref cn])), (pd, .inl (T 0, 80, .inl (zA P)))] s.heap := hP
  have hl := lv_entry ([.ref mm, .int (iz (a))]) (n := 3) (Nat.le_of_ble_eq_true rfl)
  rw [lg_entry_eq]
  generalize (lg_sl ([.ref mm, .int (iz (a))]) ++ List.replicate (3 - (lg_sl ([.ref mm, .int (iz (a))])).length) Slot.unset).toArray = ls at hl ⊢
  have hl : lv_has ls 3 [(0, .ref mm), (1, .int (iz (a)))] := hl
  have hn80 := hVP.1
  have hs0 := pd_s_rng hVP i
  refine lv_aload_n hx hb dX7_isSign_0 rfl (lv_at hl 0 rfl) ?_
  refine lv_iload_n hx hb dX7_isSign_1 rfl (lv_at hl 1 rfl) ?_
  refine lv_iload_n hx hb dX7_isSign_2 rfl (lv_at hl 1 rfl) ?_
  refine kc_i (va_runV (As := [.int (iz (a)), .int (iz (a))]) (rest := []) ⟨hx, hb, hml, hown, hts⟩ (c_X7_isAt l D T mm nw pa kp zl hd pd os od dn pu lo2 sp2 lv2 wa mt cn P n hVP i (by omega) a a (by omega)) (cwV 2 hts gX7_isSign_X7_isAt rfl rfl rfl (by decide +kernel) ⟨Nat.le_of_ble_eq_true rfl, Nat.le_of_ble_eq_true rfl⟩) (kPc.v hK (va_recv hK.1 hP (ci := 7) (q0 := 0) rfl rfl) (kcut hP [0, 1] rfl)) rfl rfl hl.1 rfl (lv_room (Nat.le_of_ble_eq_true rfl)) dX7_isSign_3 ⟨Nat.zero_le _, Nat.zero_le _⟩) (fun r1 hr1 => ?_)
  subst hr1
  refine lv_istore_n (lv' := [(2, .int (iz (if a ≤ pd_s P n i ∧ pd_s P n i ≤ a then 1 else 0))), (0, .ref mm), (1, .int (iz (a)))]) hx hb dX7_isSign_6 rfl hl (by decide) rfl (fun ls hl => ?_)
  refine lv_aload_n hx hb dX7_isSign_7 rfl (lv_at hl 1 rfl) ?_
  refine lv_dup hx hb dX7_isSign_8 rfl ?_
  refine va_get (D := D) (ci := 7) (C := RX7) (T := TX7) (N := 18) hx hb hts w1 hown hK.1 hP 0 rfl rfl 7 (by decide) w0 (fun _ h9 => h9) rfl dX7_isSign_9 ?_
  refine lv_iload_n hx hb dX7_isSign_12 rfl (lv_at hl 0 rfl) ?_
  refine kz_if_eq (tgt := 20) hx hb dX7_isSign_13 (by decide) (by omega) (fun c13 => ?_) (fun c13 => ?_)
  · refine lv_iconst (v := iz (0)) hx hb dX7_isSign_20 (by decide) ?_
    refine kz_add hx hb dX7_isSign_21 ?_
    refine kz_top (y := ((i + 0 : Nat) : Int)) (by omega) ?_
    refine va_put (D := D) (ci := 7) (v := .int (iz (((i + 0 : Nat) : Int)))) (ty := .int) (C := RX7) (T := TX7) (N := 18) hx hb hts w1 tyX7 tyX7_ok nmX7 hown hK.1 hP hD hS 0 rfl rfl 7 (by decide) w0 (fun _ h9 => h9) rfl (by decide +kernel) rfl rfl (Nat.le_of_ble_eq_true rfl) dX7_isSign_22 (fun H locs hP hD hS => ?_)
    have hP : va_P D vwCl [(mm, .inr (7, [.ref nw, .ref pa, .int (iz (kp)), .ref zl, .ref hd, .ref pd, .int (iz (((n : Nat) : Int))), .int (iz (((i + 0 : Nat) : Int))), .ref os, .int (iz (od)), .int (iz (dn)), .int (iz (pu)), .int (iz (lo2)), .int (iz (sp2)), .int (iz (lv2)), .int (iz (wa)), .ref mt, .ref cn])), (pd, .inl (T 0, 80, .inl (zA P)))] H := hP
    have hD : va_D A [(mm, .inr (7, [.ref nw, .ref pa, .int (iz (kp)), .ref zl, .ref hd, .ref pd, .int (iz (((n : Nat) : Int))), .int (iz (((i + 0 : Nat) : Int))), .ref os, .int (iz (od)), .int (iz (dn)), .int (iz (pu)), .int (iz (lo2)), .int (iz (sp2)), .int (iz (lv2)), .int (iz (wa)), .ref mt, .ref cn])), (pd, .inl (T 0, 80, .inl (zA P)))] := hD
    refine lv_iload_n hx hb dX7_isSign_25 rfl (lv_at hl 0 rfl) ?_
    have hZ : (((i + 0 : Nat) : Int) : Int) = ((if pd_s P n i = a then i + 1 else i : Nat) : Int) := (by (repeat' split) <;> omega)
    have hP : va_P D vwCl [(mm, .inr (7, [.ref nw, .ref pa, .int (iz (kp)), .ref zl, .ref hd, .ref pd, .int (iz (((n : Nat) : Int))), .int (iz (((if pd_s P n i = a then i + 1 else i : Nat) : Int))), .ref os, .int (iz (od)), .int (iz (dn)), .int (iz (pu)), .int (iz (lo2)), .int (iz (sp2)), .int (iz (lv2)), .int (iz (wa)), .ref mt, .ref cn])), (pd, .inl (T 0, 80, .inl (zA P)))] H := by rw [← hZ]; exact hP
    have hD : va_D A [(mm, .inr (7, [.ref nw, .ref pa, .int (iz (kp)), .ref zl, .ref hd, .ref pd, .int (iz (((n : Nat) : Int))), .int (iz (((if pd_s P n i = a then i + 1 else i : Nat) : Int))), .ref os, .int (iz (od)), .int (iz (dn)), .int (iz (pu)), .int (iz (lo2)), .int (iz (sp2)), .int (iz (lv2)), .int (iz (wa)), .ref mt, .ref cn])), (pd, .inl (T 0, 80, .inl (zA P)))] := by rw [← hZ]; exact hD
    exact W.zret hx hb hr (kz_nar (by omega)) (fun t ht hW => ⟨⟨_, (), rfl, (congrArg iz (by first | (rw [if_pos (by omega)]; (repeat' split) <;> omega) | (rw [if_neg (by omega)]; (repeat' split) <;> omega))), by show va_P _ _ _ t.heap; rw [ht]; exact hP⟩, hS.F ht⟩) hS.2.2 dX7_isSign_26
  · refine lv_iconst (v := iz (1)) hx hb dX7_isSign_16 (by decide) ?_
    refine lv_goto (tgt := 21) hx hb dX7_isSign_17 (by decide) ?_
    refine kz_add hx hb dX7_isSign_21 ?_
    refine kz_top (y := ((i + 1 : Nat) : Int)) (by omega) ?_
    refine va_put (D := D) (ci := 7) (v := .int (iz (((i + 1 : Nat) : Int)))) (ty := .int) (C := RX7) (T := TX7) (N := 18) hx hb hts w1 tyX7 tyX7_ok nmX7 hown hK.1 hP hD hS 0 rfl rfl 7 (by decide) w0 (fun _ h9 => h9) rfl (by decide +kernel) rfl rfl (Nat.le_of_ble_eq_true rfl) dX7_isSign_22 (fun H locs hP hD hS => ?_)
    have hP : va_P D vwCl [(mm, .inr (7, [.ref nw, .ref pa, .int (iz (kp)), .ref zl, .ref hd, .ref pd, .int (iz (((n : Nat) : Int))), .int (iz (((i + 1 : Nat) : Int))), .ref os, .int (iz (od)), .int (iz (dn)), .int (iz (pu)), .int (iz (lo2)), .int (iz (sp2)), .int (iz (lv2)), .int (iz (wa)), .ref mt, .ref cn])), (pd, .inl (T 0, 80, .inl (zA P)))] H := hP
    have hD : va_D A [(mm, .inr (7, [.ref nw, .ref pa, .int (iz (kp)), .ref zl, .ref hd, .ref pd, .int (iz (((n : Nat) : Int))), .int (iz (((i + 1 : Nat) : Int))), .ref os, .int (iz (od)), .int (iz (dn)), .int (iz (pu)), .int (iz (lo2)), .int (iz (sp2)), .int (iz (lv2)), .int (iz (wa)), .ref mt, .ref cn])), (pd, .inl (T 0, 80, .inl (zA P)))] := hD
    refine lv_iload_n hx hb dX7_isSign_25 rfl (lv_at hl 0 rfl) ?_
    have hZ : (((i + 1 : Nat) : Int) : Int) = ((if pd_s P n i = a then i + 1 else i : Nat) : Int) := (by (repeat' split) <;> omega)
    have hP : va_P D vwCl [(mm, .inr (7, [.ref nw, .ref pa, .int (iz (kp)), .ref zl, .ref hd, .ref pd, .int (iz (((n : Nat) : Int))), .int (iz (((if pd_s P n i = a then i + 1 else i : Nat) : Int))), .ref os, .int (iz (od)), .int (iz (dn)), .int (iz (pu)), .int (iz (lo2)), .int (iz (sp2)), .int (iz (lv2)), .int (iz (wa)), .ref mt, .ref cn])), (pd, .inl (T 0, 80, .inl (zA P)))] H := by rw [← hZ]; exact hP
    have hD : va_D A [(mm, .inr (7, [.ref nw, .ref pa, .int (iz (kp)), .ref zl, .ref hd, .ref pd, .int (iz (((n : Nat) : Int))), .int (iz (((if pd_s P n i = a then i + 1 else i : Nat) : Int))), .ref os, .int (iz (od)), .int (iz (dn)), .int (iz (pu)), .int (iz (lo2)), .int (iz (sp2)), .int (iz (lv2)), .int (iz (wa)), .ref mt, .ref cn])), (pd, .inl (T 0, 80, .inl (zA P)))] := by rw [← hZ]; exact hD
    exact W.zret hx hb hr (kz_nar (by omega)) (fun t ht hW => ⟨⟨_, (), rfl, (congrArg iz (by first | (rw [if_pos (by omega)]; (repeat' split) <;> omega) | (rw [if_neg (by omega)]; (repeat' split) <;> omega))), by show va_P _ _ _ t.heap; rw [ht]; exact hP⟩, hS.F ht⟩) hS.2.2 dX7_isSign_26
set_option maxHeartbeats 4000000 in
set_option maxRecDepth 100000 in
theorem c_X7_isNumber (l : Launch) (D : va_G) (T : Nat → ClassId) (sz : Nat) (mm : Nat) (nw : Nat) (pa : Nat) (kp : Int) (zl : Nat) (hd : Nat) (pd : Nat) (os : Nat) (dn : Int) (pu : Int) (lo2 : Int) (sp2 : Int) (lv2 : Int) (wa : Int) (mt : Nat) (cn : Nat) (P : Nat → Int) (n : Nat) (hVP : VP P n) (i : Nat) (hi : i ≤ n) (k : Nat) (hk40 : k ≤ 40) (O : Nat → Int) (wj : Nat) (hw2 : 1 ≤ wj ∧ wj ≤ 4) : Met l yX7_isNumber wsX7_isNumber ({ frames := 2, cells := 0, slots := 0, locals := 44 }) (kPc D T [.ref mm, .int (iz (((wj : Nat) : Int)))] (kW D sz [(mm, .inr (7, [.ref nw, .ref pa, .int (iz (kp)), .ref zl, .ref hd, .ref pd, .int (iz (((n : Nat) : Int))), .int (iz (((i : Nat) : Int))), .ref os, .int (iz (((k : Nat) : Int))), .int (iz (dn)), .int (iz (pu)), .int (iz (lo2)), .int (iz (sp2)), .int (iz (lv2)), .int (iz (wa)), .ref mt, .ref cn])), (pd, .inl (T 0, 80, .inl (zA P))), (os, .inl (T 0, 205, .inl (zA O)))])) (va_Qi (fun (r : Int32) (u : Unit) => r = iz (if pn_len P n i = 0 then 0 else 1)) (fun (u : Unit) (t : State) => va_P D vwCl [(mm, .inr (7, [.ref nw, .ref pa, .int (iz (kp)), .ref zl, .ref hd, .ref pd, .int (iz (((n : Nat) : Int))), .int (iz (((pn_end P n i : Nat) : Int))), .ref os, .int (iz (((k : Nat) : Int))), .int (iz (dn)), .int (iz (pu)), .int (iz (lo2)), .int (iz (sp2)), .int (iz (lv2)), .int (iz (wa)), .ref mt, .ref cn])), (pd, .inl (T 0, 80, .inl (zA P))), (os, .inl (T 0, 205, .inl (zA (if pn_len P n i = 0 then O else zup O (5 * k + wj) (pn_val P n i)))))] t.heap) (va_A [(mm, .inr (7, [.ref nw, .ref pa, .int (iz (kp)), .ref zl, .ref hd, .ref pd, .int (iz (((n : Nat) : Int))), .int (iz (((i : Nat) : Int))), .ref os, .int (iz (((k : Nat) : Int))), .int (iz (dn)), .int (iz (pu)), .int (iz (lo2)), .int (iz (sp2)), .int (iz (lv2)), .int (iz (wa)), .ref mt, .ref cn])), (pd, .inl (T 0, 80, .inl (zA P))), (os, .inl (T 0, 205, .inl (zA O)))] sz)) 0 0 (va_A [(mm, .inr (7, [.ref nw, .ref pa, .int (iz (kp)), .ref zl, .ref hd, .ref pd, .int (iz (((n : Nat) : Int))), .int (iz (((i : Nat) : Int))), .ref os, .int (iz (((k : Nat) : Int))), .int (iz (dn)), .int (iz (pu)), .int (iz (lo2)), .int (iz (sp2)), .int (iz (lv2)), .int (iz (wa)), .ref mt, .ref cn])), (pd, .inl (T 0, 80, .inl (zA P))), (os, .inl (T 0, 205, .inl (zA O)))] sz) := by
  refine Met.ofW (cc := cX7_isNumber) (maxL := 3) (ret := (some .boolean)) (by decide) rfl ?_
  intro p e s m args below meth c s₁ B hml hv
  obtain ⟨rfl, hK, hsz, hP, hD0⟩ := hv
  have hx := B.exec
  have hb := B.bytes
  have hr := B.returns
  have hts := atoms_spec (ws := wsX7_isNumber) B.pre
  have hown : s.vm.findClass RX7 = some m.cls := findClass_of_methodNamed B.named
  have hlocks := B.notSynchronized
  have w0 := hts (.fieldLink RX7 23 "LakePlantModel" "pad" "[I") (List.mem_of_getElem? (i := 1) rfl)
  have w1 : ∀ w ∈ wsX70, w ∈ wsX7_isNumber := by decide +kernel
  have w2 := hts (.fieldLink RX7 165 "LakePlantModel" "at" "I") (List.mem_of_getElem? (i := 2) rfl)
  have w3 := hts (.fieldLink RX7 26 "LakePlantModel" "orders" "[I") (List.mem_of_getElem? (i := 3) rfl)
  have w4 := hts (.fieldLink RX7 171 "LakePlantModel" "ordered" "I") (List.mem_of_getElem? (i := 4) rfl)
  subst hsz
  have hD := hD0.self (sz := s.heap.size)
  generalize hAe : va_A [(mm, .inr (7, [.ref nw, .ref pa, .int (iz (kp)), .ref zl, .ref hd, .ref pd, .int (iz (((n : Nat) : Int))), .int (iz (((i : Nat) : Int))), .ref os, .int (iz (((k : Nat) : Int))), .int (iz (dn)), .int (iz (pu)), .int (iz (lo2)), .int (iz (sp2)), .int (iz (lv2)), .int (iz (wa)), .ref mt, .ref cn])), (pd, .inl (T 0, 80, .inl (zA P))), (os, .inl (T 0, 205, .inl (zA O)))] s.heap.size = A at hD ⊢
  have hA : ∀ q : Nat, s.heap.size ≤ q → A q := fun q h => by rw [← hAe]; exact Or.inr h
  have hS : va_S A s.heap s.heap [] := va_S.rf
  have hP : va_P D vwCl [(mm, .inr (7, [.ref nw, .ref pa, .int (iz (kp)), .ref zl, .ref hd, .ref pd, .int (iz (((n : Nat) : Int))), .int (iz (((i : Nat) : Int))), .ref os, .int (iz (((k : Nat) : Int))), .int (iz (dn)), .int (iz (pu)), .int (iz (lo2)), .int (iz (sp2)), .int (iz (lv2)), .int (iz (wa)), .ref mt, .ref cn])), (pd, .inl (T 0, 80, .inl (zA P))), (os, .inl (T 0, 205, .inl (zA O)))] s.heap := hP
  have hl := lv_entry ([.ref mm, .int (iz (((wj : Nat) : Int)))]) (n := 3) (Nat.le_of_ble_eq_true rfl)
  rw [lg_entry_eq]
  generalize (lg_sl ([.ref mm, .int (iz (((wj : Nat) : Int)))]) ++ List.replicate (3 - (lg_sl ([.ref mm, .int (iz (((wj : Nat) : Int)))])).length) Slot.unset).toArray = ls at hl ⊢
  have hl : lv_has ls 3 [(0, .ref mm), (1, .int (iz (((wj : Nat) : Int))))] := hl
  have hn80 := hVP.1
  have hs0 := pd_s_rng hVP i
  have hs1 := pd_s_rng hVP (i + 1)
  have hs2 := pd_s_rng hVP (i + 2)
  have hln : pn_len P n i = if 48 ≤ pd_s P n i ∧ pd_s P n i ≤ 57 then (if pd_s P n i = 48 then 1 else if 48 ≤ pd_s P n (i + 1) ∧ pd_s P n (i + 1) ≤ 57 then (if 48 ≤ pd_s P n (i + 2) ∧ pd_s P n (i + 2) ≤ 57 then 3 else 2) else 1) else 0 := rfl
  have hvl : pn_val P n i = if pn_len P n i = 1 then pd_s P n i - 48 else if pn_len P n i = 2 then (pd_s P n i - 48) * 10 + (pd_s P n (i + 1) - 48) else ((pd_s P n i - 48) * 10 + (pd_s P n (i + 1) - 48)) * 10 + (pd_s P n (i + 2) - 48) := rfl
  have hpi : i < n → P i = pd_s P n i := fun q => by unfold pd_s; rw [if_pos q]
  refine lv_aload_n hx hb dX7_isNumber_0 rfl (lv_at hl 0 rfl) ?_
  refine lv_bipush (v := iz (48)) hx hb dX7_isNumber_1 (by decide) ?_
  refine lv_bipush (v := iz (57)) hx hb dX7_isNumber_3 (by decide) ?_
  refine kc_i (va_runV (As := [.int (iz (48)), .int (iz (57))]) (rest := []) ⟨hx, hb, hml, hown, hts⟩ (c_X7_isAt l D T mm nw pa kp zl hd pd os ((k : Nat) : Int) dn pu lo2 sp2 lv2 wa mt cn P n hVP i (by omega) 48 57 (by omega)) (cwV 2 hts gX7_isNumber_X7_isAt rfl rfl rfl (by decide +kernel) ⟨Nat.le_of_ble_eq_true rfl, Nat.le_of_ble_eq_true rfl⟩) (kPc.v hK (va_recv hK.1 hP (ci := 7) (q0 := 0) rfl rfl) (kcut hP [0, 1] rfl)) rfl rfl hl.1 rfl (lv_room (Nat.le_of_ble_eq_true rfl)) dX7_isNumber_5 ⟨Nat.zero_le _, Nat.zero_le _⟩) (fun r1 hr1 => ?_)
  subst hr1
  refine kz_if_ne (tgt := 13) hx hb dX7_isNumber_8 (by decide) (by omega) (fun c8 => ?_) (fun c8 => ?_)
  · have hd0 : 48 ≤ pd_s P n i ∧ pd_s P n i ≤ 57 := by split at c8 <;> omega
    have hin : i < n := by omega
    refine lv_aload_n hx hb dX7_isNumber_13 rfl (lv_at hl 0 rfl) ?_
    refine va_get (D := D) (ci := 7) (C := RX7) (T := TX7) (N := 18) hx hb hts w1 hown hK.1 hP 0 rfl rfl 5 (by decide) w0 (fun _ h9 => h9) rfl dX7_isNumber_14 ?_
    refine lv_aload_n hx hb dX7_isNumber_17 rfl (lv_at hl 0 rfl) ?_
    refine va_get (D := D) (ci := 7) (C := RX7) (T := TX7) (N := 18) hx hb hts w1 hown hK.1 hP 0 rfl rfl 7 (by decide) w2 (fun _ h9 => h9) rfl dX7_isNumber_18 ?_
    refine kz_iald hx hb hK hP (1) rfl (i) (by omega) (by omega) (by omega) dX7_isNumber_21 ?_
    refine kz_top (y := pd_s P n i) (hpi hin) ?_
    refine lv_bipush (v := iz (48)) hx hb dX7_isNumber_22 (by decide) ?_
    refine kz_sub hx hb dX7_isNumber_24 ?_
    refine lv_istore_n (lv' := [(2, .int (iz ((pd_s P n i) - 48))), (0, .ref mm), (1, .int (iz (((wj : Nat) : Int))))]) hx hb dX7_isNumber_25 rfl hl (by decide) rfl (fun ls hl => ?_)
    refine lv_aload_n hx hb dX7_isNumber_26 rfl (lv_at hl 1 rfl) ?_
    refine lv_dup hx hb dX7_isNumber_27 rfl ?_
    refine va_get (D := D) (ci := 7) (C := RX7) (T := TX7) (N := 18) hx hb hts w1 hown hK.1 hP 0 rfl rfl 7 (by decide) w2 (fun _ h9 => h9) rfl dX7_isNumber_28 ?_
    refine lv_iconst (v := iz (1)) hx hb dX7_isNumber_31 (by decide) ?_
    refine kz_add hx hb dX7_isNumber_32 ?_
    refine kz_top (y := ((i + 1 : Nat) : Int)) (by omega) ?_
    refine va_put (D := D) (ci := 7) (v := .int (iz (((i + 1 : Nat) : Int)))) (ty := .int) (C := RX7) (T := TX7) (N := 18) hx hb hts w1 tyX7 tyX7_ok nmX7 hown hK.1 hP hD hS 0 rfl rfl 7 (by decide) w2 (fun _ h9 => h9) rfl (by decide +kernel) rfl rfl (Nat.le_of_ble_eq_true rfl) dX7_isNumber_33 (fun H locs hP hD hS => ?_)
    have hP : va_P D vwCl [(mm, .inr (7, [.ref nw, .ref pa, .int (iz (kp)), .ref zl, .ref hd, .ref pd, .int (iz (((n : Nat) : Int))), .int (iz (((i + 1 : Nat) : Int))), .ref os, .int (iz (((k : Nat) : Int))), .int (iz (dn)), .int (iz (pu)), .int (iz (lo2)), .int (iz (sp2)), .int (iz (lv2)), .int (iz (wa)), .ref mt, .ref cn])), (pd, .inl (T 0, 80, .inl (zA P))), (os, .inl (T 0, 205, .inl (zA O)))] H := hP
    have hD : va_D A [(mm, .inr (7, [.ref nw, .ref pa, .int (iz (kp)), .ref zl, .ref hd, .ref pd, .int (iz (((n : Nat) : Int))), .int (iz (((i + 1 : Nat) : Int))), .ref os, .int (iz (((k : Nat) : Int))), .int (iz (dn)), .int (iz (pu)), .int (iz (lo2)), .int (iz (sp2)), .int (iz (lv2)), .int (iz (wa)), .ref mt, .ref cn])), (pd, .inl (T 0, 80, .inl (zA P))), (os, .inl (T 0, 205, .inl (zA O)))] := hD
    have hl : lv_has ls 3 [(2, .int (iz ((pd_s P n i - 48)))), (0, .ref mm), (1, .int (iz (((wj : Nat) : Int))))] := by rw [← (show ((pd_s P n i) - 48 : Int) = (pd_s P n i - 48) from (by first | rfl | omega))]; exact hl
    refine kz_loopW2 (pc := 36) (I := fun (cn2 : Nat) (v : Int) (H : Heap) (locs : List Loc) (ls : Array Slot) => (1 ≤ cn2 ∧ cn2 ≤ 3 ∧ i + cn2 ≤ n) ∧ ((cn2 = 1 ∧ v = pd_s P n i - 48) ∨ (cn2 = 2 ∧ pd_s P n i ≠ 48 ∧ (48 ≤ pd_s P n (i + 1) ∧ pd_s P n (i + 1) ≤ 57) ∧ v = (pd_s P n i - 48) * 10 + (pd_s P n (i + 1) - 48)) ∨ (cn2 = 3 ∧ pd_s P n i ≠ 48 ∧ (48 ≤ pd_s P n (i + 1) ∧ pd_s P n (i + 1) ≤ 57) ∧ (48 ≤ pd_s P n (i + 2) ∧ pd_s P n (i + 2) ≤ 57) ∧ v = ((pd_s P n i - 48) * 10 + (pd_s P n (i + 1) - 48)) * 10 + (pd_s P n (i + 2) - 48))) ∧ va_P D vwCl [(mm, .inr (7, [.ref nw, .ref pa, .int (iz (kp)), .ref zl, .ref hd, .ref pd, .int (iz (((n : Nat) : Int))), .int (iz (((i + cn2 : Nat) : Int))), .ref os, .int (iz (((k : Nat) : Int))), .int (iz (dn)), .int (iz (pu)), .int (iz (lo2)), .int (iz (sp2)), .int (iz (lv2)), .int (iz (wa)), .ref mt, .ref cn])), (pd, .inl (T 0, 80, .inl (zA P))), (os, .inl (T 0, 205, .inl (zA O)))] H ∧ va_D A [(mm, .inr (7, [.ref nw, .ref pa, .int (iz (kp)), .ref zl, .ref hd, .ref pd, .int (iz (((n : Nat) : Int))), .int (iz (((i + cn2 : Nat) : Int))), .ref os, .int (iz (((k : Nat) : Int))), .int (iz (dn)), .int (iz (pu)), .int (iz (lo2)), .int (iz (sp2)), .int (iz (lv2)), .int (iz (wa)), .ref mt, .ref cn])), (pd, .inl (T 0, 80, .inl (zA P))), (os, .inl (T 0, 205, .inl (zA O)))] ∧ va_S A s.heap H locs ∧ lv_has ls 3 [(0, .ref mm), (1, .int (iz (((wj : Nat) : Int)))), (2, .int (iz (v)))]) (μ := fun (cn2 : Nat) (v : Int) => 3 - cn2) 1 (pd_s P n i - 48) ⟨(by omega), (by omega), hP, hD, hS, lv_sub hl [1, 2, 0] rfl⟩ ?_
    rintro cn2 v H locs ls ⟨hci, hv, hP, hD, hS, hl⟩ ih36
    have hq1 : cn2 = 1 → pd_s P n (i + cn2) = pd_s P n (i + 1) := fun q => by rw [q]
    have hq2 : cn2 = 2 → pd_s P n (i + cn2) = pd_s P n (i + 2) := fun q => by rw [q]
    have hsc := pd_s_rng hVP (i + cn2)
    have hpc : i + cn2 < n → P (i + cn2) = pd_s P n (i + cn2) := fun q => by unfold pd_s; rw [if_pos q]
    refine lv_iload_n hx hb dX7_isNumber_36 rfl (lv_at hl 2 rfl) ?_
    refine kz_if_le (tgt := 88) hx hb dX7_isNumber_37 (by decide) (by omega) (fun c37 => ?_) (fun c37 => ?_)
    · have hln2 : pn_len P n i = cn2 := by rw [hln]; (repeat' split) <;> omega
      refine lv_aload_n hx hb dX7_isNumber_88 rfl (lv_at hl 0 rfl) ?_
      refine va_get (D := D) (ci := 7) (C := RX7) (T := TX7) (N := 18) hx hb hts w1 hown hK.1 hP 0 rfl rfl 8 (by decide) w3 (fun _ h9 => h9) rfl dX7_isNumber_89 ?_
      refine lv_iconst (v := iz (5)) hx hb dX7_isNumber_92 (by decide) ?_
      refine lv_aload_n hx hb dX7_isNumber_93 rfl (lv_at hl 0 rfl) ?_
      refine va_get (D := D) (ci := 7) (C := RX7) (T := TX7) (N := 18) hx hb hts w1 hown hK.1 hP 0 rfl rfl 9 (by decide) w4 (fun _ h9 => h9) rfl dX7_isNumber_94 ?_
      refine kz_mul hx hb dX7_isNumber_97 ?_
      refine lv_iload_n hx hb dX7_isNumber_98 rfl (lv_at hl 1 rfl) ?_
      refine kz_add hx hb dX7_isNumber_99 ?_
      refine lv_iload_n hx hb dX7_isNumber_100 rfl (lv_at hl 2 rfl) ?_
      refine kz_iast hx hb hK hP hD hS (2) rfl (5 * k + wj) (by omega) (by omega) (by omega) dX7_isNumber_101 (fun H locs hP hD hS => ?_)
      have hP : va_P D vwCl [(mm, .inr (7, [.ref nw, .ref pa, .int (iz (kp)), .ref zl, .ref hd, .ref pd, .int (iz (((n : Nat) : Int))), .int (iz (((i + cn2 : Nat) : Int))), .ref os, .int (iz (((k : Nat) : Int))), .int (iz (dn)), .int (iz (pu)), .int (iz (lo2)), .int (iz (sp2)), .int (iz (lv2)), .int (iz (wa)), .ref mt, .ref cn])), (pd, .inl (T 0, 80, .inl (zA P))), (os, .inl (T 0, 205, .inl (zA (zup O (5 * k + wj) v))))] H := hP
      have hD : va_D A [(mm, .inr (7, [.ref nw, .ref pa, .int (iz (kp)), .ref zl, .ref hd, .ref pd, .int (iz (((n : Nat) : Int))), .int (iz (((i + cn2 : Nat) : Int))), .ref os, .int (iz (((k : Nat) : Int))), .int (iz (dn)), .int (iz (pu)), .int (iz (lo2)), .int (iz (sp2)), .int (iz (lv2)), .int (iz (wa)), .ref mt, .ref cn])), (pd, .inl (T 0, 80, .inl (zA P))), (os, .inl (T 0, 205, .inl (zA (zup O (5 * k + wj) v))))] := hD
      refine lv_iconst (v := iz (1)) hx hb dX7_isNumber_102 (by decide) ?_
      have hZ : (((i + cn2 : Nat) : Int) : Int) = ((pn_end P n i : Nat) : Int) := (by unfold pn_end; omega)
      have hP : va_P D vwCl [(mm, .inr (7, [.ref nw, .ref pa, .int (iz (kp)), .ref zl, .ref hd, .ref pd, .int (iz (((n : Nat) : Int))), .int (iz (((pn_end P n i : Nat) : Int))), .ref os, .int (iz (((k : Nat) : Int))), .int (iz (dn)), .int (iz (pu)), .int (iz (lo2)), .int (iz (sp2)), .int (iz (lv2)), .int (iz (wa)), .ref mt, .ref cn])), (pd, .inl (T 0, 80, .inl (zA P))), (os, .inl (T 0, 205, .inl (zA (zup O (5 * k + wj) v))))] H := by rw [← hZ]; exact hP
      have hD : va_D A [(mm, .inr (7, [.ref nw, .ref pa, .int (iz (kp)), .ref zl, .ref hd, .ref pd, .int (iz (((n : Nat) : Int))), .int (iz (((pn_end P n i : Nat) : Int))), .ref os, .int (iz (((k : Nat) : Int))), .int (iz (dn)), .int (iz (pu)), .int (iz (lo2)), .int (iz (sp2)), .int (iz (lv2)), .int (iz (wa)), .ref mt, .ref cn])), (pd, .inl (T 0, 80, .inl (zA P))), (os, .inl (T 0, 205, .inl (zA (zup O (5 * k + wj) v))))] := by rw [← hZ]; exact hD
      have hZ : (zup O (5 * k + wj) v : Nat → Int) = if pn_len P n i = 0 then O else zup O (5 * k + wj) (pn_val P n i) := (by rw [if_neg (by omega), hvl]; congr 1; (repeat' split) <;> omega)
      have hP : va_P D vwCl [(mm, .inr (7, [.ref nw, .ref pa, .int (iz (kp)), .ref zl, .ref hd, .ref pd, .int (iz (((n : Nat) : Int))), .int (iz (((pn_end P n i : Nat) : Int))), .ref os, .int (iz (((k : Nat) : Int))), .int (iz (dn)), .int (iz (pu)), .int (iz (lo2)), .int (iz (sp2)), .int (iz (lv2)), .int (iz (wa)), .ref mt, .ref cn])), (pd, .inl (T 0, 80, .inl (zA P))), (os, .inl (T 0, 205, .inl (zA (if pn_len P n i = 0 then O else zup O (5 * k + wj) (pn_val P n i)))))] H := by rw [← hZ]; exact hP
      have hD : va_D A [(mm, .inr (7, [.ref nw, .ref pa, .int (iz (kp)), .ref zl, .ref hd, .ref pd, .int (iz (((n : Nat) : Int))), .int (iz (((pn_end P n i : Nat) : Int))), .ref os, .int (iz (((k : Nat) : Int))), .int (iz (dn)), .int (iz (pu)), .int (iz (lo2)), .int (iz (sp2)), .int (iz (lv2)), .int (iz (wa)), .ref mt, .ref cn])), (pd, .inl (T 0, 80, .inl (zA P))), (os, .inl (T 0, 205, .inl (zA (if pn_len P n i = 0 then O else zup O (5 * k + wj) (pn_val P n i)))))] := by rw [← hZ]; exact hD
      exact W.zret hx hb hr (kz_nar (by omega)) (fun t ht hW => ⟨⟨_, (), rfl, (congrArg iz (by rw [if_neg (by omega)])), by show va_P _ _ _ t.heap; rw [ht]; exact hP⟩, hS.F ht⟩) hS.2.2 dX7_isNumber_103
    · refine lv_iload_n hx hb dX7_isNumber_40 rfl (lv_at hl 2 rfl) ?_
      refine lv_bipush (v := iz (100)) hx hb dX7_isNumber_41 (by decide) ?_
      refine kz_icmp_ge (tgt := 88) hx hb dX7_isNumber_43 (by decide) (by omega) (by omega) (fun c43 => ?_) (fun c43 => ?_)
      · have hln2 : pn_len P n i = cn2 := by rw [hln]; (repeat' split) <;> omega
        refine lv_aload_n hx hb dX7_isNumber_88 rfl (lv_at hl 0 rfl) ?_
        refine va_get (D := D) (ci := 7) (C := RX7) (T := TX7) (N := 18) hx hb hts w1 hown hK.1 hP 0 rfl rfl 8 (by decide) w3 (fun _ h9 => h9) rfl dX7_isNumber_89 ?_
        refine lv_iconst (v := iz (5)) hx hb dX7_isNumber_92 (by decide) ?_
        refine lv_aload_n hx hb dX7_isNumber_93 rfl (lv_at hl 0 rfl) ?_
        refine va_get (D := D) (ci := 7) (C := RX7) (T := TX7) (N := 18) hx hb hts w1 hown hK.1 hP 0 rfl rfl 9 (by decide) w4 (fun _ h9 => h9) rfl dX7_isNumber_94 ?_
        refine kz_mul hx hb dX7_isNumber_97 ?_
        refine lv_iload_n hx hb dX7_isNumber_98 rfl (lv_at hl 1 rfl) ?_
        refine kz_add hx hb dX7_isNumber_99 ?_
        refine lv_iload_n hx hb dX7_isNumber_100 rfl (lv_at hl 2 rfl) ?_
        refine kz_iast hx hb hK hP hD hS (2) rfl (5 * k + wj) (by omega) (by omega) (by omega) dX7_isNumber_101 (fun H locs hP hD hS => ?_)
        have hP : va_P D vwCl [(mm, .inr (7, [.ref nw, .ref pa, .int (iz (kp)), .ref zl, .ref hd, .ref pd, .int (iz (((n : Nat) : Int))), .int (iz (((i + cn2 : Nat) : Int))), .ref os, .int (iz (((k : Nat) : Int))), .int (iz (dn)), .int (iz (pu)), .int (iz (lo2)), .int (iz (sp2)), .int (iz (lv2)), .int (iz (wa)), .ref mt, .ref cn])), (pd, .inl (T 0, 80, .inl (zA P))), (os, .inl (T 0, 205, .inl (zA (zup O (5 * k + wj) v))))] H := hP
        have hD : va_D A [(mm, .inr (7, [.ref nw, .ref pa, .int (iz (kp)), .ref zl, .ref hd, .ref pd, .int (iz (((n : Nat) : Int))), .int (iz (((i + cn2 : Nat) : Int))), .ref os, .int (iz (((k : Nat) : Int))), .int (iz (dn)), .int (iz (pu)), .int (iz (lo2)), .int (iz (sp2)), .int (iz (lv2)), .int (iz (wa)), .ref mt, .ref cn])), (pd, .inl (T 0, 80, .inl (zA P))), (os, .inl (T 0, 205, .inl (zA (zup O (5 * k + wj) v))))] := hD
        refine lv_iconst (v := iz (1)) hx hb dX7_isNumber_102 (by decide) ?_
        have hZ : (((i + cn2 : Nat) : Int) : Int) = ((pn_end P n i : Nat) : Int) := (by unfold pn_end; omega)
        have hP : va_P D vwCl [(mm, .inr (7, [.ref nw, .ref pa, .int (iz (kp)), .ref zl, .ref hd, .ref pd, .int (iz (((n : Nat) : Int))), .int (iz (((pn_end P n i : Nat) : Int))), .ref os, .int (iz (((k : Nat) : Int))), .int (iz (dn)), .int (iz (pu)), .int (iz (lo2)), .int (iz (sp2)), .int (iz (lv2)), .int (iz (wa)), .ref mt, .ref cn])), (pd, .inl (T 0, 80, .inl (zA P))), (os, .inl (T 0, 205, .inl (zA (zup O (5 * k + wj) v))))] H := by rw [← hZ]; exact hP
        have hD : va_D A [(mm, .inr (7, [.ref nw, .ref pa, .int (iz (kp)), .ref zl, .ref hd, .ref pd, .int (iz (((n : Nat) : Int))), .int (iz (((pn_end P n i : Nat) : Int))), .ref os, .int (iz (((k : Nat) : Int))), .int (iz (dn)), .int (iz (pu)), .int (iz (lo2)), .int (iz (sp2)), .int (iz (lv2)), .int (iz (wa)), .ref mt, .ref cn])), (pd, .inl (T 0, 80, .inl (zA P))), (os, .inl (T 0, 205, .inl (zA (zup O (5 * k + wj) v))))] := by rw [← hZ]; exact hD
        have hZ : (zup O (5 * k + wj) v : Nat → Int) = if pn_len P n i = 0 then O else zup O (5 * k + wj) (pn_val P n i) := (by rw [if_neg (by omega), hvl]; congr 1; (repeat' split) <;> omega)
        have hP : va_P D vwCl [(mm, .inr (7, [.ref nw, .ref pa, .int (iz (kp)), .ref zl, .ref hd, .ref pd, .int (iz (((n : Nat) : Int))), .int (iz (((pn_end P n i : Nat) : Int))), .ref os, .int (iz (((k : Nat) : Int))), .int (iz (dn)), .int (iz (pu)), .int (iz (lo2)), .int (iz (sp2)), .int (iz (lv2)), .int (iz (wa)), .ref mt, .ref cn])), (pd, .inl (T 0, 80, .inl (zA P))), (os, .inl (T 0, 205, .inl (zA (if pn_len P n i = 0 then O else zup O (5 * k + wj) (pn_val P n i)))))] H := by rw [← hZ]; exact hP
        have hD : va_D A [(mm, .inr (7, [.ref nw, .ref pa, .int (iz (kp)), .ref zl, .ref hd, .ref pd, .int (iz (((n : Nat) : Int))), .int (iz (((pn_end P n i : Nat) : Int))), .ref os, .int (iz (((k : Nat) : Int))), .int (iz (dn)), .int (iz (pu)), .int (iz (lo2)), .int (iz (sp2)), .int (iz (lv2)), .int (iz (wa)), .ref mt, .ref cn])), (pd, .inl (T 0, 80, .inl (zA P))), (os, .inl (T 0, 205, .inl (zA (if pn_len P n i = 0 then O else zup O (5 * k + wj) (pn_val P n i)))))] := by rw [← hZ]; exact hD
        exact W.zret hx hb hr (kz_nar (by omega)) (fun t ht hW => ⟨⟨_, (), rfl, (congrArg iz (by rw [if_neg (by omega)])), by show va_P _ _ _ t.heap; rw [ht]; exact hP⟩, hS.F ht⟩) hS.2.2 dX7_isNumber_103
      · refine lv_aload_n hx hb dX7_isNumber_46 rfl (lv_at hl 0 rfl) ?_
        refine lv_bipush (v := iz (48)) hx hb dX7_isNumber_47 (by decide) ?_
        refine lv_bipush (v := iz (57)) hx hb dX7_isNumber_49 (by decide) ?_
        refine kc_i (va_runV (As := [.int (iz (48)), .int (iz (57))]) (rest := []) ⟨hx, hb, hml, hown, hts⟩ (c_X7_isAt l D T mm nw pa kp zl hd pd os ((k : Nat) : Int) dn pu lo2 sp2 lv2 wa mt cn P n hVP (i + cn2) (by omega) 48 57 (by omega)) (cwV 2 hts gX7_isNumber_X7_isAt rfl rfl rfl (by decide +kernel) ⟨Nat.le_of_ble_eq_true rfl, Nat.le_of_ble_eq_true rfl⟩) (kPc.v hK (va_recv hK.1 hP (ci := 7) (q0 := 0) rfl rfl) (kcut hP [0, 1] rfl)) rfl rfl hl.1 rfl (lv_room (Nat.le_of_ble_eq_true rfl)) dX7_isNumber_51 ⟨Nat.zero_le _, Nat.zero_le _⟩) (fun r2 hr2 => ?_)
        subst hr2
        refine kz_if_eq (tgt := 88) hx hb dX7_isNumber_54 (by decide) (by omega) (fun c54 => ?_) (fun c54 => ?_)
        · have hd2 : ¬ (48 ≤ pd_s P n (i + cn2) ∧ pd_s P n (i + cn2) ≤ 57) := by split at c54 <;> omega
          have hln2 : pn_len P n i = cn2 := by rw [hln]; (repeat' split) <;> omega
          refine lv_aload_n hx hb dX7_isNumber_88 rfl (lv_at hl 0 rfl) ?_
          refine va_get (D := D) (ci := 7) (C := RX7) (T := TX7) (N := 18) hx hb hts w1 hown hK.1 hP 0 rfl rfl 8 (by decide) w3 (fun _ h9 => h9) rfl dX7_isNumber_89 ?_
          refine lv_iconst (v := iz (5)) hx hb dX7_isNumber_92 (by decide) ?_
          refine lv_aload_n hx hb dX7_isNumber_93 rfl (lv_at hl 0 rfl) ?_
          refine va_get (D := D) (ci := 7) (C := RX7) (T := TX7) (N := 18) hx hb hts w1 hown hK.1 hP 0 rfl rfl 9 (by decide) w4 (fun _ h9 => h9) rfl dX7_isNumber_94 ?_
          refine kz_mul hx hb dX7_isNumber_97 ?_
          refine lv_iload_n hx hb dX7_isNumber_98 rfl (lv_at hl 1 rfl) ?_
          refine kz_add hx hb dX7_isNumber_99 ?_
          refine lv_iload_n hx hb dX7_isNumber_100 rfl (lv_at hl 2 rfl) ?_
          refine kz_iast hx hb hK hP hD hS (2) rfl (5 * k + wj) (by omega) (by omega) (by omega) dX7_isNumber_101 (fun H locs hP hD hS => ?_)
          have hP : va_P D vwCl [(mm, .inr (7, [.ref nw, .ref pa, .int (iz (kp)), .ref zl, .ref hd, .ref pd, .int (iz (((n : Nat) : Int))), .int (iz (((i + cn2 : Nat) : Int))), .ref os, .int (iz (((k : Nat) : Int))), .int (iz (dn)), .int (iz (pu)), .int (iz (lo2)), .int (iz (sp2)), .int (iz (lv2)), .int (iz (wa)), .ref mt, .ref cn])), (pd, .inl (T 0, 80, .inl (zA P))), (os, .inl (T 0, 205, .inl (zA (zup O (5 * k + wj) v))))] H := hP
          have hD : va_D A [(mm, .inr (7, [.ref nw, .ref pa, .int (iz (kp)), .ref zl, .ref hd, .ref pd, .int (iz (((n : Nat) : Int))), .int (iz (((i + cn2 : Nat) : Int))), .ref os, .int (iz (((k : Nat) : Int))), .int (iz (dn)), .int (iz (pu)), .int (iz (lo2)), .int (iz (sp2)), .int (iz (lv2)), .int (iz (wa)), .ref mt, .ref cn])), (pd, .inl (T 0, 80, .inl (zA P))), (os, .inl (T 0, 205, .inl (zA (zup O (5 * k + wj) v))))] := hD
          refine lv_iconst (v := iz (1)) hx hb dX7_isNumber_102 (by decide) ?_
          have hZ : (((i + cn2 : Nat) : Int) : Int) = ((pn_end P n i : Nat) : Int) := (by unfold pn_end; omega)
          have hP : va_P D vwCl [(mm, .inr (7, [.ref nw, .ref pa, .int (iz (kp)), .ref zl, .ref hd, .ref pd, .int (iz (((n : Nat) : Int))), .int (iz (((pn_end P n i : Nat) : Int))), .ref os, .int (iz (((k : Nat) : Int))), .int (iz (dn)), .int (iz (pu)), .int (iz (lo2)), .int (iz (sp2)), .int (iz (lv2)), .int (iz (wa)), .ref mt, .ref cn])), (pd, .inl (T 0, 80, .inl (zA P))), (os, .inl (T 0, 205, .inl (zA (zup O (5 * k + wj) v))))] H := by rw [← hZ]; exact hP
          have hD : va_D A [(mm, .inr (7, [.ref nw, .ref pa, .int (iz (kp)), .ref zl, .ref hd, .ref pd, .int (iz (((n : Nat) : Int))), .int (iz (((pn_end P n i : Nat) : Int))), .ref os, .int (iz (((k : Nat) : Int))), .int (iz (dn)), .int (iz (pu)), .int (iz (lo2)), .int (iz (sp2)), .int (iz (lv2)), .int (iz (wa)), .ref mt, .ref cn])), (pd, .inl (T 0, 80, .inl (zA P))), (os, .inl (T 0, 205, .inl (zA (zup O (5 * k + wj) v))))] := by rw [← hZ]; exact hD
          have hZ : (zup O (5 * k + wj) v : Nat → Int) = if pn_len P n i = 0 then O else zup O (5 * k + wj) (pn_val P n i) := (by rw [if_neg (by omega), hvl]; congr 1; (repeat' split) <;> omega)
          have hP : va_P D vwCl [(mm, .inr (7, [.ref nw, .ref pa, .int (iz (kp)), .ref zl, .ref hd, .ref pd, .int (iz (((n : Nat) : Int))), .int (iz (((pn_end P n i : Nat) : Int))), .ref os, .int (iz (((k : Nat) : Int))), .int (iz (dn)), .int (iz (pu)), .int (iz (lo2)), .int (iz (sp2)), .int (iz (lv2)), .int (iz (wa)), .ref mt, .ref cn])), (pd, .inl (T 0, 80, .inl (zA P))), (os, .inl (T 0, 205, .inl (zA (if pn_len P n i = 0 then O else zup O (5 * k + wj) (pn_val P n i)))))] H := by rw [← hZ]; exact hP
          have hD : va_D A [(mm, .inr (7, [.ref nw, .ref pa, .int (iz (kp)), .ref zl, .ref hd, .ref pd, .int (iz (((n : Nat) : Int))), .int (iz (((pn_end P n i : Nat) : Int))), .ref os, .int (iz (((k : Nat) : Int))), .int (iz (dn)), .int (iz (pu)), .int (iz (lo2)), .int (iz (sp2)), .int (iz (lv2)), .int (iz (wa)), .ref mt, .ref cn])), (pd, .inl (T 0, 80, .inl (zA P))), (os, .inl (T 0, 205, .inl (zA (if pn_len P n i = 0 then O else zup O (5 * k + wj) (pn_val P n i)))))] := by rw [← hZ]; exact hD
          exact W.zret hx hb hr (kz_nar (by omega)) (fun t ht hW => ⟨⟨_, (), rfl, (congrArg iz (by rw [if_neg (by omega)])), by show va_P _ _ _ t.heap; rw [ht]; exact hP⟩, hS.F ht⟩) hS.2.2 dX7_isNumber_103
        · have hd1 : 48 ≤ pd_s P n (i + cn2) ∧ pd_s P n (i + cn2) ≤ 57 := by split at c54 <;> omega
          have hin2 : i + cn2 < n := by omega
          refine lv_bipush (v := iz (10)) hx hb dX7_isNumber_57 (by decide) ?_
          refine lv_iload_n hx hb dX7_isNumber_59 rfl (lv_at hl 2 rfl) ?_
          refine kz_mul hx hb dX7_isNumber_60 ?_
          refine lv_aload_n hx hb dX7_isNumber_61 rfl (lv_at hl 0 rfl) ?_
          refine va_get (D := D) (ci := 7) (C := RX7) (T := TX7) (N := 18) hx hb hts w1 hown hK.1 hP 0 rfl rfl 5 (by decide) w0 (fun _ h9 => h9) rfl dX7_isNumber_62 ?_
          refine lv_aload_n hx hb dX7_isNumber_65 rfl (lv_at hl 0 rfl) ?_
          refine va_get (D := D) (ci := 7) (C := RX7) (T := TX7) (N := 18) hx hb hts w1 hown hK.1 hP 0 rfl rfl 7 (by decide) w2 (fun _ h9 => h9) rfl dX7_isNumber_66 ?_
          refine kz_iald hx hb hK hP (1) rfl (i + cn2) (by omega) (by omega) (by omega) dX7_isNumber_69 ?_
          refine kz_top (y := pd_s P n (i + cn2)) (hpc hin2) ?_
          refine kz_add hx hb dX7_isNumber_70 ?_
          refine lv_bipush (v := iz (48)) hx hb dX7_isNumber_71 (by decide) ?_
          refine kz_sub hx hb dX7_isNumber_73 ?_
          refine lv_istore_n (lv' := [(2, .int (iz (((10 * v) + (pd_s P n (i + cn2))) - 48))), (0, .ref mm), (1, .int (iz (((wj : Nat) : Int))))]) hx hb dX7_isNumber_74 rfl hl (by decide) rfl (fun ls hl => ?_)
          refine lv_aload_n hx hb dX7_isNumber_75 rfl (lv_at hl 1 rfl) ?_
          refine lv_dup hx hb dX7_isNumber_76 rfl ?_
          refine va_get (D := D) (ci := 7) (C := RX7) (T := TX7) (N := 18) hx hb hts w1 hown hK.1 hP 0 rfl rfl 7 (by decide) w2 (fun _ h9 => h9) rfl dX7_isNumber_77 ?_
          refine lv_iconst (v := iz (1)) hx hb dX7_isNumber_80 (by decide) ?_
          refine kz_add hx hb dX7_isNumber_81 ?_
          refine kz_top (y := ((i + cn2 + 1 : Nat) : Int)) (by omega) ?_
          refine va_put (D := D) (ci := 7) (v := .int (iz (((i + cn2 + 1 : Nat) : Int)))) (ty := .int) (C := RX7) (T := TX7) (N := 18) hx hb hts w1 tyX7 tyX7_ok nmX7 hown hK.1 hP hD hS 0 rfl rfl 7 (by decide) w2 (fun _ h9 => h9) rfl (by decide +kernel) rfl rfl (Nat.le_of_ble_eq_true rfl) dX7_isNumber_82 (fun H locs hP hD hS => ?_)
          have hP : va_P D vwCl [(mm, .inr (7, [.ref nw, .ref pa, .int (iz (kp)), .ref zl, .ref hd, .ref pd, .int (iz (((n : Nat) : Int))), .int (iz (((i + cn2 + 1 : Nat) : Int))), .ref os, .int (iz (((k : Nat) : Int))), .int (iz (dn)), .int (iz (pu)), .int (iz (lo2)), .int (iz (sp2)), .int (iz (lv2)), .int (iz (wa)), .ref mt, .ref cn])), (pd, .inl (T 0, 80, .inl (zA P))), (os, .inl (T 0, 205, .inl (zA O)))] H := hP
          have hD : va_D A [(mm, .inr (7, [.ref nw, .ref pa, .int (iz (kp)), .ref zl, .ref hd, .ref pd, .int (iz (((n : Nat) : Int))), .int (iz (((i + cn2 + 1 : Nat) : Int))), .ref os, .int (iz (((k : Nat) : Int))), .int (iz (dn)), .int (iz (pu)), .int (iz (lo2)), .int (iz (sp2)), .int (iz (lv2)), .int (iz (wa)), .ref mt, .ref cn])), (pd, .inl (T 0, 80, .inl (zA P))), (os, .inl (T 0, 205, .inl (zA O)))] := hD
          refine lv_goto (tgt := 36) hx hb dX7_isNumber_85 (by decide) ?_
          have hl : lv_has ls 3 [(2, .int (iz ((10 * v + pd_s P n (i + cn2) - 48)))), (0, .ref mm), (1, .int (iz (((wj : Nat) : Int))))] := by rw [← (show (((10 * v) + (pd_s P n (i + cn2))) - 48 : Int) = (10 * v + pd_s P n (i + cn2) - 48) from (by first | rfl | omega))]; exact hl
          have hZ : (((i + cn2 + 1 : Nat) : Int) : Int) = ((i + (cn2 + 1) : Nat) : Int) := (by omega)
          have hP : va_P D vwCl [(mm, .inr (7, [.ref nw, .ref pa, .int (iz (kp)), .ref zl, .ref hd, .ref pd, .int (iz (((n : Nat) : Int))), .int (iz (((i + (cn2 + 1) : Nat) : Int))), .ref os, .int (iz (((k : Nat) : Int))), .int (iz (dn)), .int (iz (pu)), .int (iz (lo2)), .int (iz (sp2)), .int (iz (lv2)), .int (iz (wa)), .ref mt, .ref cn])), (pd, .inl (T 0, 80, .inl (zA P))), (os, .inl (T 0, 205, .inl (zA O)))] H := by rw [← hZ]; exact hP
          have hD : va_D A [(mm, .inr (7, [.ref nw, .ref pa, .int (iz (kp)), .ref zl, .ref hd, .ref pd, .int (iz (((n : Nat) : Int))), .int (iz (((i + (cn2 + 1) : Nat) : Int))), .ref os, .int (iz (((k : Nat) : Int))), .int (iz (dn)), .int (iz (pu)), .int (iz (lo2)), .int (iz (sp2)), .int (iz (lv2)), .int (iz (wa)), .ref mt, .ref cn])), (pd, .inl (T 0, 80, .inl (zA P))), (os, .inl (T 0, 205, .inl (zA O)))] := by rw [← hZ]; exact hD
          exact ih36 (cn2 + 1) (10 * v + pd_s P n (i + cn2) - 48) _ _ _ ⟨(by omega), (by omega), hP, hD, hS, lv_sub hl [1, 2, 0] rfl⟩ (by omega)
  · have hz : pn_len P n i = 0 := by rw [hln]; split at c8 <;> ((repeat' split) <;> omega)
    refine lv_iconst (v := iz (0)) hx hb dX7_isNumber_11 (by decide) ?_
    have hZ : (((i : Nat) : Int) : Int) = ((pn_end P n i : Nat) : Int) := (by unfold pn_end; omega)
    have hP : va_P D vwCl [(mm, .inr (7, [.ref nw, .ref pa, .int (iz (kp)), .ref zl, .ref hd, .ref pd, .int (iz (((n : Nat) : Int))), .int (iz (((pn_end P n i : Nat) : Int))), .ref os, .int (iz (((k : Nat) : Int))), .int (iz (dn)), .int (iz (pu)), .int (iz (lo2)), .int (iz (sp2)), .int (iz (lv2)), .int (iz (wa)), .ref mt, .ref cn])), (pd, .inl (T 0, 80, .inl (zA P))), (os, .inl (T 0, 205, .inl (zA O)))] s.heap := by rw [← hZ]; exact hP
    have hD : va_D A [(mm, .inr (7, [.ref nw, .ref pa, .int (iz (kp)), .ref zl, .ref hd, .ref pd, .int (iz (((n : Nat) : Int))), .int (iz (((pn_end P n i : Nat) : Int))), .ref os, .int (iz (((k : Nat) : Int))), .int (iz (dn)), .int (iz (pu)), .int (iz (lo2)), .int (iz (sp2)), .int (iz (lv2)), .int (iz (wa)), .ref mt, .ref cn])), (pd, .inl (T 0, 80, .inl (zA P))), (os, .inl (T 0, 205, .inl (zA O)))] := by rw [← hZ]; exact hD
    have hZ : (O : Nat → Int) = if pn_len P n i = 0 then O else zup O (5 * k + wj) (pn_val P n i) := (by rw [if_pos hz])
    have hP : va_P D vwCl [(mm, .inr (7, [.ref nw, .ref pa, .int (iz (kp)), .ref zl, .ref hd, .ref pd, .int (iz (((n : Nat) : Int))), .int (iz (((pn_end P n i : Nat) : Int))), .ref os, .int (iz (((k : Nat) : Int))), .int (iz (dn)), .int (iz (pu)), .int (iz (lo2)), .int (iz (sp2)), .int (iz (lv2)), .int (iz (wa)), .ref mt, .ref cn])), (pd, .inl (T 0, 80, .inl (zA P))), (os, .inl (T 0, 205, .inl (zA (if pn_len P n i = 0 then O else zup O (5 * k + wj) (pn_val P n i)))))] s.heap := by rw [← hZ]; exact hP
    have hD : va_D A [(mm, .inr (7, [.ref nw, .ref pa, .int (iz (kp)), .ref zl, .ref hd, .ref pd, .int (iz (((n : Nat) : Int))), .int (iz (((pn_end P n i : Nat) : Int))), .ref os, .int (iz (((k : Nat) : Int))), .int (iz (dn)), .int (iz (pu)), .int (iz (lo2)), .int (iz (sp2)), .int (iz (lv2)), .int (iz (wa)), .ref mt, .ref cn])), (pd, .inl (T 0, 80, .inl (zA P))), (os, .inl (T 0, 205, .inl (zA (if pn_len P n i = 0 then O else zup O (5 * k + wj) (pn_val P n i)))))] := by rw [← hZ]; exact hD
    exact W.zret hx hb hr (kz_nar (by omega)) (fun t ht hW => ⟨⟨_, (), rfl, (congrArg iz (by rw [if_pos hz])), by show va_P _ _ _ t.heap; rw [ht]; exact hP⟩, hS.F ht⟩) hS.2.2 dX7_isNumber_12
