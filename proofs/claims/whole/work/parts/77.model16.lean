set_option maxHeartbeats 4000000 in
set_option maxRecDepth 100000 in
theorem c_X7_changesAll (l : Launch) (D : va_G) (T : Nat → ClassId) (sz : Nat) (mm : Nat) (nw : Nat) (pa : Nat) (kp : Int) (zl : Nat) (hd : Nat) (pd : Nat) (pn : Int) (at0 : Int) (os : Nat) (od : Int) (dn : Int) (pu : Int) (lo2 : Int) (sp2 : Int) (lv2 : Int) (wa : Int) (mt : Nat) (cn : Nat) (Z : Nat → Int) (kd : Int) (w : Int) (q4 : Int) (q5 : Int) (v : Int) (hwk : w = if kd = 112 then 1 else if kd = 105 then 2 else 3) (hq45 : -1 ≤ q4 ∧ q4 ≤ 1000 ∧ -1 ≤ q5 ∧ q5 ≤ 1000) (hiv : -2147483648 ≤ v ∧ v < 2147483648) (hV : VL Z) : Met l yX7_changesAll wsX7_changesAll ({ frames := 3, cells := 0, slots := 0, locals := 66 }) (kPc D T [.ref mm, .int (iz (w)), .int (iz (q4)), .int (iz (q5)), .int (iz (v))] (kW D sz [(mm, .inr (7, [.ref nw, .ref pa, .int (iz (kp)), .ref zl, .ref hd, .ref pd, .int (iz (pn)), .int (iz (at0)), .ref os, .int (iz (od)), .int (iz (dn)), .int (iz (pu)), .int (iz (lo2)), .int (iz (sp2)), .int (iz (lv2)), .int (iz (wa)), .ref mt, .ref cn])), (nw, .inl (T 0, 115, .inl (zA (mz Z))))])) (va_Qi (fun (r : Int32) (u : Unit) => r = iz (if q5 < q4 then 0 else if oo_r kd v (q5 - q4 + 1).toNat q4 Z (-1) < 0 then 0 else 1)) (fun (u : Unit) (t : State) => va_P D vwCl [(mm, .inr (7, [.ref nw, .ref pa, .int (iz (kp)), .ref zl, .ref hd, .ref pd, .int (iz (pn)), .int (iz (at0)), .ref os, .int (iz (od)), .int (iz (dn)), .int (iz (pu)), .int (iz (lo2)), .int (iz (sp2)), .int (iz (lv2)), .int (iz (wa)), .ref mt, .ref cn])), (nw, .inl (T 0, 115, .inl (zA (mz (if q5 < q4 then Z else oo_z kd v (q5 - q4 + 1).toNat q4 Z)))))] t.heap) (va_A [(mm, .inr (7, [.ref nw, .ref pa, .int (iz (kp)), .ref zl, .ref hd, .ref pd, .int (iz (pn)), .int (iz (at0)), .ref os, .int (iz (od)), .int (iz (dn)), .int (iz (pu)), .int (iz (lo2)), .int (iz (sp2)), .int (iz (lv2)), .int (iz (wa)), .ref mt, .ref cn])), (nw, .inl (T 0, 115, .inl (zA (mz Z))))] sz)) 0 0 (va_A [(mm, .inr (7, [.ref nw, .ref pa, .int (iz (kp)), .ref zl, .ref hd, .ref pd, .int (iz (pn)), .int (iz (at0)), .ref os, .int (iz (od)), .int (iz (dn)), .int (iz (pu)), .int (iz (lo2)), .int (iz (sp2)), .int (iz (lv2)), .int (iz (wa)), .ref mt, .ref cn])), (nw, .inl (T 0, 115, .inl (zA (mz Z))))] sz) := by
  refine Met.ofW (cc := cX7_changesAll) (maxL := 6) (ret := (some .boolean)) (by decide) rfl ?_
  intro p e s m args below meth c s₁ B hml hv
  obtain ⟨rfl, hK, hsz, hP, hD0⟩ := hv
  have hx := B.exec
  have hb := B.bytes
  have hr := B.returns
  have hts := atoms_spec (ws := wsX7_changesAll) B.pre
  have hown : s.vm.findClass RX7 = some m.cls := findClass_of_methodNamed B.named
  have hlocks := B.notSynchronized
  subst hsz
  have hD := hD0.self (sz := s.heap.size)
  generalize hAe : va_A [(mm, .inr (7, [.ref nw, .ref pa, .int (iz (kp)), .ref zl, .ref hd, .ref pd, .int (iz (pn)), .int (iz (at0)), .ref os, .int (iz (od)), .int (iz (dn)), .int (iz (pu)), .int (iz (lo2)), .int (iz (sp2)), .int (iz (lv2)), .int (iz (wa)), .ref mt, .ref cn])), (nw, .inl (T 0, 115, .inl (zA (mz Z))))] s.heap.size = A at hD ⊢
  have hA : ∀ q : Nat, s.heap.size ≤ q → A q := fun q h => by rw [← hAe]; exact Or.inr h
  have hS : va_S A s.heap s.heap [] := va_S.rf
  have hP : va_P D vwCl [(mm, .inr (7, [.ref nw, .ref pa, .int (iz (kp)), .ref zl, .ref hd, .ref pd, .int (iz (pn)), .int (iz (at0)), .ref os, .int (iz (od)), .int (iz (dn)), .int (iz (pu)), .int (iz (lo2)), .int (iz (sp2)), .int (iz (lv2)), .int (iz (wa)), .ref mt, .ref cn])), (nw, .inl (T 0, 115, .inl (zA (mz Z))))] s.heap := hP
  have hl := lv_entry ([.ref mm, .int (iz (w)), .int (iz (q4)), .int (iz (q5)), .int (iz (v))]) (n := 6) (Nat.le_of_ble_eq_true rfl)
  rw [lg_entry_eq]
  generalize (lg_sl ([.ref mm, .int (iz (w)), .int (iz (q4)), .int (iz (q5)), .int (iz (v))]) ++ List.replicate (6 - (lg_sl ([.ref mm, .int (iz (w)), .int (iz (q4)), .int (iz (q5)), .int (iz (v))])).length) Slot.unset).toArray = ls at hl ⊢
  have hl : lv_has ls 6 [(0, .ref mm), (1, .int (iz (w))), (2, .int (iz (q4))), (3, .int (iz (q5))), (4, .int (iz (v)))] := hl
  have hw3 : 1 ≤ w ∧ w ≤ 3 := by rw [hwk]; (repeat' split) <;> omega
  have hmp := my_p_rng w
  refine lv_iload_n hx hb dX7_changesAll_0 rfl (lv_at hl 2 rfl) ?_
  refine lv_istore (lv' := [(5, .int (iz (q4))), (0, .ref mm), (1, .int (iz (w))), (2, .int (iz (q4))), (3, .int (iz (q5))), (4, .int (iz (v)))]) hx hb dX7_changesAll_1 hl (by decide) rfl (fun ls hl => ?_)
  have hl : lv_has ls 6 [(5, .int (iz (q4 + ((0 : Nat) : Int)))), (0, .ref mm), (1, .int (iz (w))), (2, .int (iz (q4))), (3, .int (iz (q5))), (4, .int (iz (v)))] := by rw [← (show (q4 : Int) = q4 + ((0 : Nat) : Int) from (by omega))]; exact hl
  refine kz_loopW3 (pc := 3) (I := fun (n : Nat) (Zc : Nat → Int) (rc : Int) (H : Heap) (locs : List Loc) (ls : Array Slot) => ((n : Int) ≤ max 0 (q5 - q4 + 1)) ∧ (VL Zc) ∧ (0 < n → 0 ≤ rc) ∧ (oo_r kd v (q5 - q4 + 1).toNat q4 Z (-1) = oo_r kd v ((q5 - q4 + 1).toNat - n) (q4 + (n : Int)) Zc rc) ∧ (oo_z kd v (q5 - q4 + 1).toNat q4 Z = oo_z kd v ((q5 - q4 + 1).toNat - n) (q4 + (n : Int)) Zc) ∧ va_P D vwCl [(mm, .inr (7, [.ref nw, .ref pa, .int (iz (kp)), .ref zl, .ref hd, .ref pd, .int (iz (pn)), .int (iz (at0)), .ref os, .int (iz (od)), .int (iz (dn)), .int (iz (pu)), .int (iz (lo2)), .int (iz (sp2)), .int (iz (lv2)), .int (iz (wa)), .ref mt, .ref cn])), (nw, .inl (T 0, 115, .inl (zA (mz Zc))))] H ∧ va_D A [(mm, .inr (7, [.ref nw, .ref pa, .int (iz (kp)), .ref zl, .ref hd, .ref pd, .int (iz (pn)), .int (iz (at0)), .ref os, .int (iz (od)), .int (iz (dn)), .int (iz (pu)), .int (iz (lo2)), .int (iz (sp2)), .int (iz (lv2)), .int (iz (wa)), .ref mt, .ref cn])), (nw, .inl (T 0, 115, .inl (zA (mz Zc))))] ∧ va_S A s.heap H locs ∧ lv_has ls 6 [(0, .ref mm), (1, .int (iz (w))), (2, .int (iz (q4))), (3, .int (iz (q5))), (4, .int (iz (v))), (5, .int (iz (q4 + ((n : Nat) : Int))))]) (μ := fun (n : Nat) (Zc : Nat → Int) (rc : Int) => 1003 - n) 0 Z (-1) ⟨(by omega), hV, (fun q => absurd q (Nat.lt_irrefl 0)), (by rw [Nat.sub_zero, show q4 + ((0 : Nat) : Int) = q4 by omega]), (by rw [Nat.sub_zero, show q4 + ((0 : Nat) : Int) = q4 by omega]), hP, hD, hS, lv_sub hl [1, 2, 3, 4, 5, 0] rfl⟩ ?_
  rintro n Zc rc H locs ls ⟨hn, hVc, hrc, her, hez, hP, hD, hS, hl⟩ ih3
  have hom := oh_my hVc (h := (q4 + ((n : Nat) : Int))) (v := v) hwk
  have hmr := my_r_rng Zc w (q4 + ((n : Nat) : Int)) v
  refine lv_iload hx hb dX7_changesAll_3 (lv_at hl 5 rfl) ?_
  refine lv_iload_n hx hb dX7_changesAll_5 rfl (lv_at hl 3 rfl) ?_
  refine kz_icmp_gt (tgt := 43) hx hb dX7_changesAll_6 (by decide) (by omega) (by omega) (fun c6 => ?_) (fun c6 => ?_)
  · refine lv_iload_n hx hb dX7_changesAll_43 rfl (lv_at hl 2 rfl) ?_
    refine lv_iload_n hx hb dX7_changesAll_44 rfl (lv_at hl 3 rfl) ?_
    refine kz_icmp_gt (tgt := 52) hx hb dX7_changesAll_45 (by decide) (by omega) (by omega) (fun c45 => ?_) (fun c45 => ?_)
    · refine lv_iconst (v := iz (0)) hx hb dX7_changesAll_52 (by decide) ?_
      have hZ : (mz Zc : Nat → Int) = mz (if q5 < q4 then Z else oo_z kd v (q5 - q4 + 1).toNat q4 Z) := (by rw [if_pos (by omega)]; rw [show (q5 - q4 + 1).toNat - n = 0 by omega] at hez; rw [show (q5 - q4 + 1).toNat = 0 by omega] at hez; exact congrArg mz hez.symm)
      have hP : va_P D vwCl [(mm, .inr (7, [.ref nw, .ref pa, .int (iz (kp)), .ref zl, .ref hd, .ref pd, .int (iz (pn)), .int (iz (at0)), .ref os, .int (iz (od)), .int (iz (dn)), .int (iz (pu)), .int (iz (lo2)), .int (iz (sp2)), .int (iz (lv2)), .int (iz (wa)), .ref mt, .ref cn])), (nw, .inl (T 0, 115, .inl (zA (mz (if q5 < q4 then Z else oo_z kd v (q5 - q4 + 1).toNat q4 Z)))))] H := by rw [← hZ]; exact hP
      have hD : va_D A [(mm, .inr (7, [.ref nw, .ref pa, .int (iz (kp)), .ref zl, .ref hd, .ref pd, .int (iz (pn)), .int (iz (at0)), .ref os, .int (iz (od)), .int (iz (dn)), .int (iz (pu)), .int (iz (lo2)), .int (iz (sp2)), .int (iz (lv2)), .int (iz (wa)), .ref mt, .ref cn])), (nw, .inl (T 0, 115, .inl (zA (mz (if q5 < q4 then Z else oo_z kd v (q5 - q4 + 1).toNat q4 Z)))))] := by rw [← hZ]; exact hD
      exact W.zret hx hb hr (kz_nar (by omega)) (fun t ht hW => ⟨⟨_, (), rfl, (congrArg iz (by rw [if_pos (by omega)])), by show va_P _ _ _ t.heap; rw [ht]; exact hP⟩, hS.F ht⟩) hS.2.2 dX7_changesAll_53
    · refine lv_iconst (v := iz (1)) hx hb dX7_changesAll_48 (by decide) ?_
      refine lv_goto (tgt := 53) hx hb dX7_changesAll_49 (by decide) ?_
      have hZ : (mz Zc : Nat → Int) = mz (if q5 < q4 then Z else oo_z kd v (q5 - q4 + 1).toNat q4 Z) := (by rw [if_neg (by omega), hez, show (q5 - q4 + 1).toNat - n = 0 by omega]; rfl)
      have hP : va_P D vwCl [(mm, .inr (7, [.ref nw, .ref pa, .int (iz (kp)), .ref zl, .ref hd, .ref pd, .int (iz (pn)), .int (iz (at0)), .ref os, .int (iz (od)), .int (iz (dn)), .int (iz (pu)), .int (iz (lo2)), .int (iz (sp2)), .int (iz (lv2)), .int (iz (wa)), .ref mt, .ref cn])), (nw, .inl (T 0, 115, .inl (zA (mz (if q5 < q4 then Z else oo_z kd v (q5 - q4 + 1).toNat q4 Z)))))] H := by rw [← hZ]; exact hP
      have hD : va_D A [(mm, .inr (7, [.ref nw, .ref pa, .int (iz (kp)), .ref zl, .ref hd, .ref pd, .int (iz (pn)), .int (iz (at0)), .ref os, .int (iz (od)), .int (iz (dn)), .int (iz (pu)), .int (iz (lo2)), .int (iz (sp2)), .int (iz (lv2)), .int (iz (wa)), .ref mt, .ref cn])), (nw, .inl (T 0, 115, .inl (zA (mz (if q5 < q4 then Z else oo_z kd v (q5 - q4 + 1).toNat q4 Z)))))] := by rw [← hZ]; exact hD
      exact W.zret hx hb hr (kz_nar (by omega)) (fun t ht hW => ⟨⟨_, (), rfl, (congrArg iz (by rw [if_neg (by omega), if_neg (by rw [her, show (q5 - q4 + 1).toNat - n = 0 by omega]; show ¬ rc < 0; have := hrc (by omega); omega)])), by show va_P _ _ _ t.heap; rw [ht]; exact hP⟩, hS.F ht⟩) hS.2.2 dX7_changesAll_53
  · refine lv_aload_n hx hb dX7_changesAll_9 rfl (lv_at hl 0 rfl) ?_
    refine lv_iload_n hx hb dX7_changesAll_10 rfl (lv_at hl 1 rfl) ?_
    refine lv_iload hx hb dX7_changesAll_11 (lv_at hl 5 rfl) ?_
    refine lv_iload hx hb dX7_changesAll_13 (lv_at hl 4 rfl) ?_
    refine kc_i (va_runV (As := [.int (iz (w)), .int (iz (q4 + ((n : Nat) : Int))), .int (iz (v))]) (rest := []) ⟨hx, hb, hml, hown, hts⟩ (c_X7_may l D T mm nw pa kp zl hd pd pn at0 os od dn pu lo2 sp2 lv2 wa mt cn Zc w (q4 + ((n : Nat) : Int)) v (by omega) (by omega) (by omega) hVc) (cwV 3 hts gX7_changesAll_X7_may rfl rfl rfl (by decide +kernel) ⟨Nat.le_of_ble_eq_true rfl, Nat.le_of_ble_eq_true rfl⟩) (kPc.v hK (va_recv hK.1 hP (ci := 7) (q0 := 0) rfl rfl) (kcut hP [0, 1] rfl)) rfl rfl hl.1 rfl (lv_room (Nat.le_of_ble_eq_true rfl)) dX7_changesAll_15 ⟨Nat.zero_le _, Nat.zero_le _⟩) (fun r1 hr1 => ?_)
    subst hr1
    refine kz_if_eq (tgt := 23) hx hb dX7_changesAll_18 (by decide) (by omega) (fun c18 => ?_) (fun c18 => ?_)
    · have hin : 0 ≤ (q4 + ((n : Nat) : Int)) ∧ (q4 + ((n : Nat) : Int)) < 24 := by unfold my_r at c18; split at c18 <;> first | assumption | omega
      refine lv_aload_n hx hb dX7_changesAll_23 rfl (lv_at hl 0 rfl) ?_
      refine lv_iload_n hx hb dX7_changesAll_24 rfl (lv_at hl 1 rfl) ?_
      refine kc_i (va_runS (As := [.int (iz (w))]) (rest := [.ref mm]) ⟨hx, hb, hml, hown, hts⟩ (c_X7_placeOf l D T w (by omega)) (va_cwS 1 hts gX7_changesAll_X7_placeOf rfl rfl rfl (by decide +kernel) ⟨Nat.le_of_ble_eq_true rfl, Nat.le_of_ble_eq_true rfl⟩) (kPc.s hK (kcut hP [] rfl)) rfl rfl hl.1 rfl (lv_room (Nat.le_of_ble_eq_true rfl)) dX7_changesAll_25 ⟨Nat.zero_le _, Nat.zero_le _⟩) (fun r2 hr2 => ?_)
      subst hr2
      refine lv_iload hx hb dX7_changesAll_28 (lv_at hl 5 rfl) ?_
      refine kz_add hx hb dX7_changesAll_30 ?_
      refine kz_top (y := ((my_p w + (q4 + ((n : Nat) : Int)).toNat : Nat) : Int)) (by omega) ?_
      refine lv_iload hx hb dX7_changesAll_31 (lv_at hl 4 rfl) ?_
      refine kc_wi (va_runV (As := [.int (iz (((my_p w + (q4 + ((n : Nat) : Int)).toNat : Nat) : Int))), .int (iz (v))]) (rest := []) ⟨hx, hb, hml, hown, hts⟩ (c_X7_changes l D T H.size mm nw pa kp zl hd pd pn at0 os od dn pu lo2 sp2 lv2 wa mt cn Zc (my_p w + (q4 + ((n : Nat) : Int)).toNat) (by omega) v) (cwV 2 hts gX7_changesAll_X7_changes rfl rfl rfl (by decide +kernel) ⟨Nat.le_of_ble_eq_true rfl, Nat.le_of_ble_eq_true rfl⟩) (kPc.v hK (va_recv hK.1 hP (ci := 7) (q0 := 0) rfl rfl) (kW.cut hP hD [0, 1] rfl (by rfl))) rfl rfl hl.1 rfl (lv_room (Nat.le_of_ble_eq_true rfl)) dX7_changesAll_33 ⟨Nat.zero_le _, Nat.zero_le _⟩) hP hD hS hA [0, 1] rfl (fun _ => rfl) (fun r3 u H locs hr3 hP hD hS => ?_)
      have hP : va_P D vwCl [(mm, .inr (7, [.ref nw, .ref pa, .int (iz (kp)), .ref zl, .ref hd, .ref pd, .int (iz (pn)), .int (iz (at0)), .ref os, .int (iz (od)), .int (iz (dn)), .int (iz (pu)), .int (iz (lo2)), .int (iz (sp2)), .int (iz (lv2)), .int (iz (wa)), .ref mt, .ref cn])), (nw, .inl (T 0, 115, .inl (zA (mz (zup Zc (my_p w + (q4 + ((n : Nat) : Int)).toNat) v)))))] H := hP
      have hD : va_D A [(mm, .inr (7, [.ref nw, .ref pa, .int (iz (kp)), .ref zl, .ref hd, .ref pd, .int (iz (pn)), .int (iz (at0)), .ref os, .int (iz (od)), .int (iz (dn)), .int (iz (pu)), .int (iz (lo2)), .int (iz (sp2)), .int (iz (lv2)), .int (iz (wa)), .ref mt, .ref cn])), (nw, .inl (T 0, 115, .inl (zA (mz (zup Zc (my_p w + (q4 + ((n : Nat) : Int)).toNat) v)))))] := hD
      subst hr3
      refine lv_pop hx hb dX7_changesAll_36 rfl ?_
      refine kz_iinc (b := (q4 + ((n : Nat) : Int)) + 1) (lv' := [(5, .int (iz ((q4 + ((n : Nat) : Int)) + 1))), (0, .ref mm), (1, .int (iz (w))), (2, .int (iz (q4))), (3, .int (iz (q5))), (4, .int (iz (v)))]) hx hb dX7_changesAll_37 hl (k := 5) rfl (by omega) (by decide) rfl (fun ls hl => ?_)
      refine lv_goto (tgt := 3) hx hb dX7_changesAll_40 (by decide) ?_
      have hl : lv_has ls 6 [(5, .int (iz (q4 + ((n + 1 : Nat) : Int)))), (0, .ref mm), (1, .int (iz (w))), (2, .int (iz (q4))), (3, .int (iz (q5))), (4, .int (iz (v)))] := by rw [← (show ((q4 + ((n : Nat) : Int)) + 1 : Int) = q4 + ((n + 1 : Nat) : Int) from (by omega))]; exact hl
      have hZ : (mz (zup Zc (my_p w + (q4 + ((n : Nat) : Int)).toNat) v) : Nat → Int) = mz (oh_z kd v Zc (q4 + ((n : Nat) : Int))) := (congrArg mz (hom.2.1 c18).symm)
      have hP : va_P D vwCl [(mm, .inr (7, [.ref nw, .ref pa, .int (iz (kp)), .ref zl, .ref hd, .ref pd, .int (iz (pn)), .int (iz (at0)), .ref os, .int (iz (od)), .int (iz (dn)), .int (iz (pu)), .int (iz (lo2)), .int (iz (sp2)), .int (iz (lv2)), .int (iz (wa)), .ref mt, .ref cn])), (nw, .inl (T 0, 115, .inl (zA (mz (oh_z kd v Zc (q4 + ((n : Nat) : Int)))))))] H := by rw [← hZ]; exact hP
      have hD : va_D A [(mm, .inr (7, [.ref nw, .ref pa, .int (iz (kp)), .ref zl, .ref hd, .ref pd, .int (iz (pn)), .int (iz (at0)), .ref os, .int (iz (od)), .int (iz (dn)), .int (iz (pu)), .int (iz (lo2)), .int (iz (sp2)), .int (iz (lv2)), .int (iz (wa)), .ref mt, .ref cn])), (nw, .inl (T 0, 115, .inl (zA (mz (oh_z kd v Zc (q4 + ((n : Nat) : Int)))))))] := by rw [← hZ]; exact hD
      exact ih3 (n + 1) (oh_z kd v Zc (q4 + ((n : Nat) : Int))) (oh_r kd v Zc (q4 + ((n : Nat) : Int))) _ _ _ ⟨(by omega), (VL_oh hVc _ _ _), (fun _ => by have := hom.1.1 c18; omega), (by rw [her, show (q5 - q4 + 1).toNat - n = ((q5 - q4 + 1).toNat - (n + 1)) + 1 by omega, (oo_go (r := rc) (ve := 0) (hom.1.1 c18)).1, show q4 + ((n + 1 : Nat) : Int) = q4 + (n : Int) + 1 by omega]), (by rw [hez, show (q5 - q4 + 1).toNat - n = ((q5 - q4 + 1).toNat - (n + 1)) + 1 by omega, (oo_go (r := rc) (ve := 0) (hom.1.1 c18)).2.1, show q4 + ((n + 1 : Nat) : Int) = q4 + (n : Int) + 1 by omega]), hP, hD, hS, lv_sub hl [1, 2, 3, 4, 5, 0] rfl⟩ (by omega)
    · have hlt : oh_r kd v Zc (q4 + ((n : Nat) : Int)) < 0 := Decidable.byContradiction (fun q => c18 (hom.1.2 q))
      have hst := oo_stop (kd := kd) (v := v) (k := (q5 - q4 + 1).toNat - (n + 1)) (h := (q4 + ((n : Nat) : Int))) (Z := Zc) (r := rc) (ve := 0) hlt
      have hnk : (q5 - q4 + 1).toNat - n = ((q5 - q4 + 1).toNat - (n + 1)) + 1 := by omega
      refine lv_iconst (v := iz (0)) hx hb dX7_changesAll_21 (by decide) ?_
      have hZ : (mz Zc : Nat → Int) = mz (if q5 < q4 then Z else oo_z kd v (q5 - q4 + 1).toNat q4 Z) := (by rw [if_neg (by omega), hez, hnk, hst.2.1, hom.2.2 c18])
      have hP : va_P D vwCl [(mm, .inr (7, [.ref nw, .ref pa, .int (iz (kp)), .ref zl, .ref hd, .ref pd, .int (iz (pn)), .int (iz (at0)), .ref os, .int (iz (od)), .int (iz (dn)), .int (iz (pu)), .int (iz (lo2)), .int (iz (sp2)), .int (iz (lv2)), .int (iz (wa)), .ref mt, .ref cn])), (nw, .inl (T 0, 115, .inl (zA (mz (if q5 < q4 then Z else oo_z kd v (q5 - q4 + 1).toNat q4 Z)))))] H := by rw [← hZ]; exact hP
      have hD : va_D A [(mm, .inr (7, [.ref nw, .ref pa, .int (iz (kp)), .ref zl, .ref hd, .ref pd, .int (iz (pn)), .int (iz (at0)), .ref os, .int (iz (od)), .int (iz (dn)), .int (iz (pu)), .int (iz (lo2)), .int (iz (sp2)), .int (iz (lv2)), .int (iz (wa)), .ref mt, .ref cn])), (nw, .inl (T 0, 115, .inl (zA (mz (if q5 < q4 then Z else oo_z kd v (q5 - q4 + 1).toNat q4 Z)))))] := by rw [← hZ]; exact hD
      exact W.zret hx hb hr (kz_nar (by omega)) (fun t ht hW => ⟨⟨_, (), rfl, (congrArg iz (by rw [if_neg (by omega), if_pos (by rw [her, hnk, hst.1]; exact hlt)])), by show va_P _ _ _ t.heap; rw [ht]; exact hP⟩, hS.F ht⟩) hS.2.2 dX7_changesAll_22
set_option maxHeartbeats 4000000 in
set_option maxRecDepth 100000 in
theorem c_X7_does (l : Launch) (D : va_G) (T : Nat → ClassId) (sz : Nat) (mm : Nat) (nw : Nat) (pa : Nat) (kp : Int) (zl : Nat) (hd : Nat) (pd : Nat) (pn : Int) (at0 : Int) (os : Nat) (od : Int) (dn : Int) (pu : Int) (lo2 : Int) (sp2 : Int) (lv2 : Int) (wa : Int) (mt : Nat) (cn : Nat) (Z : Nat → Int) (P : Nat → Int) (n : Nat) (hVP : VP P n) (ip : Nat) (k : Nat) (hk40 : k ≤ 40) (O : Nat → Int) (hOD : OD P n ip O k) (hok : po_ok P n ip = 1) (hV : VL Z) (M : Nat → Int) : Met l yX7_does wsX7_does ({ frames := 6, cells := 0, slots := 0, locals := 139 }) (kPc D T [.ref mm, .int (iz (((k : Nat) : Int)))] (kW D sz [(mm, .inr (7, [.ref nw, .ref pa, .int (iz (kp)), .ref zl, .ref hd, .ref pd, .int (iz (pn)), .int (iz (at0)), .ref os, .int (iz (od)), .int (iz (dn)), .int (iz (pu)), .int (iz (lo2)), .int (iz (sp2)), .int (iz (lv2)), .int (iz (wa)), .ref mt, .ref cn])), (nw, .inl (T 0, 115, .inl (zA (mz Z)))), (os, .inl (T 0, 205, .inl (zA O))), (mt, .inl (T 0, 5025, .inl (zA M)))])) (va_Qi (fun (r : Int32) (u : Int × Int × Int × Int × Int × Int × (Nat → Int)) => r = iz (if ot_r P n ip Z < 0 then 0 else 1)) (fun (u : Int × Int × Int × Int × Int × Int × (Nat → Int)) (t : State) => va_P D vwCl [(mm, .inr (7, [.ref nw, .ref pa, .int (iz (kp)), .ref zl, .ref hd, .ref pd, .int (iz (pn)), .int (iz (at0)), .ref os, .int (iz (od)), .int (iz (u.1)), .int (iz (u.2.1)), .int (iz (u.2.2.1)), .int (iz (u.2.2.2.1)), .int (iz (u.2.2.2.2.1)), .int (iz (u.2.2.2.2.2.1)), .ref mt, .ref cn])), (nw, .inl (T 0, 115, .inl (zA (mz (ot_z P n ip Z))))), (os, .inl (T 0, 205, .inl (zA O))), (mt, .inl (T 0, 5025, .inl (zA u.2.2.2.2.2.2)))] t.heap) (va_A [(mm, .inr (7, [.ref nw, .ref pa, .int (iz (kp)), .ref zl, .ref hd, .ref pd, .int (iz (pn)), .int (iz (at0)), .ref os, .int (iz (od)), .int (iz (dn)), .int (iz (pu)), .int (iz (lo2)), .int (iz (sp2)), .int (iz (lv2)), .int (iz (wa)), .ref mt, .ref cn])), (nw, .inl (T 0, 115, .inl (zA (mz Z)))), (os, .inl (T 0, 205, .inl (zA O))), (mt, .inl (T 0, 5025, .inl (zA M)))] sz)) 0 0 (va_A [(mm, .inr (7, [.ref nw, .ref pa, .int (iz (kp)), .ref zl, .ref hd, .ref pd, .int (iz (pn)), .int (iz (at0)), .ref os, .int (iz (od)), .int (iz (dn)), .int (iz (pu)), .int (iz (lo2)), .int (iz (sp2)), .int (iz (lv2)), .int (iz (wa)), .ref mt, .ref cn])), (nw, .inl (T 0, 115, .inl (zA (mz Z)))), (os, .inl (T 0, 205, .inl (zA O))), (mt, .inl (T 0, 5025, .inl (zA M)))] sz) := by
  refine Met.ofW (cc := cX7_does) (maxL := 9) (ret := (some .boolean)) (by decide) rfl ?_
  intro p e s m args below meth c s₁ B hml hv
  obtain ⟨rfl, hK, hsz, hP, hD0⟩ := hv
  have hx := B.exec
  have hb := B.bytes
  have hr := B.returns
  have hts := atoms_spec (ws := wsX7_does) B.pre
  have hown : s.vm.findClass RX7 = some m.cls := findClass_of_methodNamed B.named
  have hlocks := B.notSynchronized
  have w0 := hts (.fieldLink RX7 26 "LakePlantModel" "orders" "[I") (List.mem_of_getElem? (i := 1) rfl)
  have w1 : ∀ w ∈ wsX70, w ∈ wsX7_does := by decide +kernel
  subst hsz
  have hD := hD0.self (sz := s.heap.size)
  generalize hAe : va_A [(mm, .inr (7, [.ref nw, .ref pa, .int (iz (kp)), .ref zl, .ref hd, .ref pd, .int (iz (pn)), .int (iz (at0)), .ref os, .int (iz (od)), .int (iz (dn)), .int (iz (pu)), .int (iz (lo2)), .int (iz (sp2)), .int (iz (lv2)), .int (iz (wa)), .ref mt, .ref cn])), (nw, .inl (T 0, 115, .inl (zA (mz Z)))), (os, .inl (T 0, 205, .inl (zA O))), (mt, .inl (T 0, 5025, .inl (zA M)))] s.heap.size = A at hD ⊢
  have hA : ∀ q : Nat, s.heap.size ≤ q → A q := fun q h => by rw [← hAe]; exact Or.inr h
  have hS : va_S A s.heap s.heap [] := va_S.rf
  have hP : va_P D vwCl [(mm, .inr (7, [.ref nw, .ref pa, .int (iz (kp)), .ref zl, .ref hd, .ref pd, .int (iz (pn)), .int (iz (at0)), .ref os, .int (iz (od)), .int (iz (dn)), .int (iz (pu)), .int (iz (lo2)), .int (iz (sp2)), .int (iz (lv2)), .int (iz (wa)), .ref mt, .ref cn])), (nw, .inl (T 0, 115, .inl (zA (mz Z)))), (os, .inl (T 0, 205, .inl (zA O))), (mt, .inl (T 0, 5025, .inl (zA M)))] s.heap := hP
  have hl := lv_entry ([.ref mm, .int (iz (((k : Nat) : Int)))]) (n := 9) (Nat.le_of_ble_eq_true rfl)
  rw [lg_entry_eq]
  generalize (lg_sl ([.ref mm, .int (iz (((k : Nat) : Int)))]) ++ List.replicate (9 - (lg_sl ([.ref mm, .int (iz (((k : Nat) : Int)))])).length) Slot.unset).toArray = ls at hl ⊢
  have hl : lv_has ls 9 [(0, .ref mm), (1, .int (iz (((k : Nat) : Int))))] := hl
  have hs := hV.1
  unfold VS at hs
  have eN : NEV = -100000000 := rfl
  have eO : NOP = -1000000000 := rfl
  have hkd := po_kind hok
  have eor : ot_r P n ip Z = or_r Z (pd_s P n ip) (pn_val P n (ip + 1)) (ph_last P n (ip + 1)) (pv_val P n (pd_s P n ip) (ph_end P n (ip + 1) + 1)) (pn_val P n (pc_a P n (ip + 1))) (pn_val P n (pc_b P n (ip + 1))) (pn_val P n (pc_c P n (ip + 1))) := rfl
  have eoz : ot_z P n ip Z = or_z Z (pd_s P n ip) (pn_val P n (ip + 1)) (ph_last P n (ip + 1)) (pv_val P n (pd_s P n ip) (ph_end P n (ip + 1) + 1)) (pn_val P n (pc_a P n (ip + 1))) (pn_val P n (pc_b P n (ip + 1))) (pn_val P n (pc_c P n (ip + 1))) := rfl
  have h00 := pd_s_rng hVP ip
  have hb1 := pn_big hVP (ip + 1)
  have hb2 := pn_big hVP (pc_a P n (ip + 1))
  have hb3 := pn_big hVP (pc_b P n (ip + 1))
  have hb4 := pn_big hVP (pc_c P n (ip + 1))
  have hb5 := pv_big hVP (pd_s P n ip) (ph_end P n (ip + 1) + 1)
  have hac := ad_c_rng Z 24
  refine lv_aload_n hx hb dX7_does_0 rfl (lv_at hl 0 rfl) ?_
  refine va_get (D := D) (ci := 7) (C := RX7) (T := TX7) (N := 18) hx hb hts w1 hown hK.1 hP 0 rfl rfl 8 (by decide) w0 (fun _ h9 => h9) rfl dX7_does_1 ?_
  refine lv_iconst (v := iz (5)) hx hb dX7_does_4 (by decide) ?_
  refine lv_iload_n hx hb dX7_does_5 rfl (lv_at hl 1 rfl) ?_
  refine kz_mul hx hb dX7_does_6 ?_
  refine kz_iald hx hb hK hP (2) rfl (5 * k) (by omega) (by omega) (by omega) dX7_does_7 ?_
  refine kz_top (y := pd_s P n ip) hOD.1 ?_
  refine lv_istore_n (lv' := [(2, .int (iz (pd_s P n ip))), (0, .ref mm), (1, .int (iz (((k : Nat) : Int))))]) hx hb dX7_does_8 rfl hl (by decide) rfl (fun ls hl => ?_)
  refine lv_aload_n hx hb dX7_does_9 rfl (lv_at hl 1 rfl) ?_
  refine va_get (D := D) (ci := 7) (C := RX7) (T := TX7) (N := 18) hx hb hts w1 hown hK.1 hP 0 rfl rfl 8 (by decide) w0 (fun _ h9 => h9) rfl dX7_does_10 ?_
  refine lv_iconst (v := iz (5)) hx hb dX7_does_13 (by decide) ?_
  refine lv_iload_n hx hb dX7_does_14 rfl (lv_at hl 2 rfl) ?_
  refine kz_mul hx hb dX7_does_15 ?_
  refine lv_iconst (v := iz (1)) hx hb dX7_does_16 (by decide) ?_
  refine kz_add hx hb dX7_does_17 ?_
  refine kz_iald hx hb hK hP (2) rfl (5 * k + 1) (by omega) (by omega) (by omega) dX7_does_18 ?_
  refine lv_istore_n (lv' := [(3, .int (iz (O (5 * k + 1)))), (2, .int (iz (pd_s P n ip))), (0, .ref mm), (1, .int (iz (((k : Nat) : Int))))]) hx hb dX7_does_19 rfl hl (by decide) rfl (fun ls hl => ?_)
  refine lv_aload_n hx hb dX7_does_20 rfl (lv_at hl 2 rfl) ?_
  refine va_get (D := D) (ci := 7) (C := RX7) (T := TX7) (N := 18) hx hb hts w1 hown hK.1 hP 0 rfl rfl 8 (by decide) w0 (fun _ h9 => h9) rfl dX7_does_21 ?_
  refine lv_iconst (v := iz (5)) hx hb dX7_does_24 (by decide) ?_
  refine lv_iload_n hx hb dX7_does_25 rfl (lv_at hl 3 rfl) ?_
  refine kz_mul hx hb dX7_does_26 ?_
  refine lv_iconst (v := iz (2)) hx hb dX7_does_27 (by decide) ?_
  refine kz_add hx hb dX7_does_28 ?_
  refine kz_iald hx hb hK hP (2) rfl (5 * k + 2) (by omega) (by omega) (by omega) dX7_does_29 ?_
  refine lv_istore (lv' := [(4, .int (iz (O (5 * k + 2)))), (3, .int (iz (O (5 * k + 1)))), (2, .int (iz (pd_s P n ip))), (0, .ref mm), (1, .int (iz (((k : Nat) : Int))))]) hx hb dX7_does_30 hl (by decide) rfl (fun ls hl => ?_)
  refine lv_aload_n hx hb dX7_does_32 rfl (lv_at hl 3 rfl) ?_
  refine va_get (D := D) (ci := 7) (C := RX7) (T := TX7) (N := 18) hx hb hts w1 hown hK.1 hP 0 rfl rfl 8 (by decide) w0 (fun _ h9 => h9) rfl dX7_does_33 ?_
  refine lv_iconst (v := iz (5)) hx hb dX7_does_36 (by decide) ?_
  refine lv_iload_n hx hb dX7_does_37 rfl (lv_at hl 4 rfl) ?_
  refine kz_mul hx hb dX7_does_38 ?_
  refine lv_iconst (v := iz (3)) hx hb dX7_does_39 (by decide) ?_
  refine kz_add hx hb dX7_does_40 ?_
  refine kz_iald hx hb hK hP (2) rfl (5 * k + 3) (by omega) (by omega) (by omega) dX7_does_41 ?_
  refine lv_istore (lv' := [(5, .int (iz (O (5 * k + 3)))), (4, .int (iz (O (5 * k + 2)))), (3, .int (iz (O (5 * k + 1)))), (2, .int (iz (pd_s P n ip))), (0, .ref mm), (1, .int (iz (((k : Nat) : Int))))]) hx hb dX7_does_42 hl (by decide) rfl (fun ls hl => ?_)
  refine lv_aload_n hx hb dX7_does_44 rfl (lv_at hl 4 rfl) ?_
  refine va_get (D := D) (ci := 7) (C := RX7) (T := TX7) (N := 18) hx hb hts w1 hown hK.1 hP 0 rfl rfl 8 (by decide) w0 (fun _ h9 => h9) rfl dX7_does_45 ?_
  refine lv_iconst (v := iz (5)) hx hb dX7_does_48 (by decide) ?_
  refine lv_iload_n hx hb dX7_does_49 rfl (lv_at hl 5 rfl) ?_
  refine kz_mul hx hb dX7_does_50 ?_
  refine lv_iconst (v := iz (4)) hx hb dX7_does_51 (by decide) ?_
  refine kz_add hx hb dX7_does_52 ?_
  refine kz_iald hx hb hK hP (2) rfl (5 * k + 4) (by omega) (by omega) (by omega) dX7_does_53 ?_
  refine lv_istore (lv' := [(6, .int (iz (O (5 * k + 4)))), (5, .int (iz (O (5 * k + 3)))), (4, .int (iz (O (5 * k + 2)))), (3, .int (iz (O (5 * k + 1)))), (2, .int (iz (pd_s P n ip))), (0, .ref mm), (1, .int (iz (((k : Nat) : Int))))]) hx hb dX7_does_54 hl (by decide) rfl (fun ls hl => ?_)
  refine lv_iload_n hx hb dX7_does_56 rfl (lv_at hl 4 rfl) ?_
  rcases (show (pd_s P n ip) = 97 ∨ (pd_s P n ip) = 99 ∨ ((pd_s P n ip) ≠ 97 ∧ (pd_s P n ip) ≠ 99) from (by omega)) with hs57 | hs57 | hs57
  · refine kz_lookIn (v := 97) (tgt := 84) (off := 27) hx hb dX7_does_57 (by decide) hs57 (by decide) (by decide) (by decide) ?_
    have eor97 : ot_r P n ip Z = if bv NOP Z 24 (Z 7) = NOP then -5 else ad_c Z 24 := by rw [eor]; unfold or_r; exact if_pos (by omega)
    have eoz97 : ot_z P n ip Z = if bv NOP Z 24 (Z 7) = NOP then Z else pl_ad Z 24 := by rw [eoz]; unfold or_z; exact if_pos (by omega)
    refine lv_aload_n hx hb dX7_does_84 rfl (lv_at hl 5 rfl) ?_
    refine kc_wi (va_runV (As := []) (rest := []) ⟨hx, hb, hml, hown, hts⟩ (c_X7_isPlanned l D T s.heap.size mm nw pa kp zl hd pd pn at0 os od dn pu lo2 sp2 lv2 wa mt cn Z hV M) (cwV 0 hts gX7_does_X7_isPlanned rfl rfl rfl (by decide +kernel) ⟨Nat.le_of_ble_eq_true rfl, Nat.le_of_ble_eq_true rfl⟩) (kPc.v hK (va_recv hK.1 hP (ci := 7) (q0 := 0) rfl rfl) (kW.cut hP hD [0, 1, 3] rfl (by rfl))) rfl rfl hl.1 rfl (lv_room (Nat.le_of_ble_eq_true rfl)) dX7_does_85 ⟨Nat.zero_le _, Nat.zero_le _⟩) hP hD hS hA [0, 1, 3] rfl (fun _ => rfl) (fun r1 u H locs hr1 hP hD hS => ?_)
    obtain ⟨u2, u3, u4, u5, u6, u7, u8⟩ := u
    have hP : va_P D vwCl [(mm, .inr (7, [.ref nw, .ref pa, .int (iz (kp)), .ref zl, .ref hd, .ref pd, .int (iz (pn)), .int (iz (at0)), .ref os, .int (iz (od)), .int (iz (u2)), .int (iz (u3)), .int (iz (u4)), .int (iz (u5)), .int (iz (u6)), .int (iz (u7)), .ref mt, .ref cn])), (nw, .inl (T 0, 115, .inl (zA (mz Z)))), (os, .inl (T 0, 205, .inl (zA O))), (mt, .inl (T 0, 5025, .inl (zA u8)))] H := hP
    have hD : va_D A [(mm, .inr (7, [.ref nw, .ref pa, .int (iz (kp)), .ref zl, .ref hd, .ref pd, .int (iz (pn)), .int (iz (at0)), .ref os, .int (iz (od)), .int (iz (u2)), .int (iz (u3)), .int (iz (u4)), .int (iz (u5)), .int (iz (u6)), .int (iz (u7)), .ref mt, .ref cn])), (nw, .inl (T 0, 115, .inl (zA (mz Z)))), (os, .inl (T 0, 205, .inl (zA O))), (mt, .inl (T 0, 5025, .inl (zA u8)))] := hD
    obtain ⟨rfl, hr1⟩ := hr1
    try dsimp only at hr1
    have hMT := hr1
    have hnq := bv_ne_nev hV (r := 24) (by omega) (l := Z 7) (by omega)
    refine lv_istore (lv' := [(7, .int (iz (if bv NEV Z 24 (Z 7) = NEV then 0 else 1))), (6, .int (iz (O (5 * k + 4)))), (5, .int (iz (O (5 * k + 3)))), (4, .int (iz (O (5 * k + 2)))), (3, .int (iz (O (5 * k + 1)))), (2, .int (iz (pd_s P n ip))), (0, .ref mm), (1, .int (iz (((k : Nat) : Int))))]) hx hb dX7_does_88 hl (by decide) rfl (fun ls hl => ?_)
    refine lv_iload hx hb dX7_does_90 (lv_at hl 0 rfl) ?_
    refine kz_if_eq (tgt := 100) hx hb dX7_does_92 (by decide) (by omega) (fun c92 => ?_) (fun c92 => ?_)
    · have hpl : bv NOP Z 24 (Z 7) = NOP := hnq.1 (by split at c92 <;> omega)
      refine lv_iload hx hb dX7_does_100 (lv_at hl 0 rfl) ?_
      have hZ : (mz Z : Nat → Int) = mz (ot_z P n ip Z) := (by first | (rw [eoz97, if_pos hpl]; done) | (rw [eoz97, if_neg hpl]; done))
      have hP : va_P D vwCl [(mm, .inr (7, [.ref nw, .ref pa, .int (iz (kp)), .ref zl, .ref hd, .ref pd, .int (iz (pn)), .int (iz (at0)), .ref os, .int (iz (od)), .int (iz (u2)), .int (iz (u3)), .int (iz (u4)), .int (iz (u5)), .int (iz (u6)), .int (iz (u7)), .ref mt, .ref cn])), (nw, .inl (T 0, 115, .inl (zA (mz (ot_z P n ip Z))))), (os, .inl (T 0, 205, .inl (zA O))), (mt, .inl (T 0, 5025, .inl (zA u8)))] H := by rw [← hZ]; exact hP
      have hD : va_D A [(mm, .inr (7, [.ref nw, .ref pa, .int (iz (kp)), .ref zl, .ref hd, .ref pd, .int (iz (pn)), .int (iz (at0)), .ref os, .int (iz (od)), .int (iz (u2)), .int (iz (u3)), .int (iz (u4)), .int (iz (u5)), .int (iz (u6)), .int (iz (u7)), .ref mt, .ref cn])), (nw, .inl (T 0, 115, .inl (zA (mz (ot_z P n ip Z))))), (os, .inl (T 0, 205, .inl (zA O))), (mt, .inl (T 0, 5025, .inl (zA u8)))] := by rw [← hZ]; exact hD
      exact W.zret hx hb hr (kz_nar (by omega)) (fun t ht hW => ⟨⟨_, (u2, u3, u4, u5, u6, u7, u8), rfl, (congrArg iz (by first | (rw [if_pos (hnq.2 hpl), eor97, if_pos hpl, if_pos (by omega)]; done) | (rw [if_neg (fun q => hpl (hnq.1 q)), eor97, if_neg hpl, if_neg (by omega)]; done))), by show va_P _ _ _ t.heap; rw [ht]; exact hP⟩, hS.F ht⟩) hS.2.2 dX7_does_102
    · have hpl : ¬ (bv NOP Z 24 (Z 7) = NOP) := fun q => by rw [if_pos (hnq.2 q)] at c92; omega
      refine lv_aload_n hx hb dX7_does_95 rfl (lv_at hl 6 rfl) ?_
      refine kc_wi (va_runV (As := []) (rest := []) ⟨hx, hb, hml, hown, hts⟩ (c_X7_adopts l D T H.size mm nw pa kp zl hd pd pn at0 os od u2 u3 u4 u5 u6 u7 mt cn Z hV u8 hMT hpl) (cwV 0 hts gX7_does_X7_adopts rfl rfl rfl (by decide +kernel) ⟨Nat.le_of_ble_eq_true rfl, Nat.le_of_ble_eq_true rfl⟩) (kPc.v hK (va_recv hK.1 hP (ci := 7) (q0 := 0) rfl rfl) (kW.cut hP hD [0, 1, 3] rfl (by rfl))) rfl rfl hl.1 rfl (lv_room (Nat.le_of_ble_eq_true rfl)) dX7_does_96 ⟨Nat.zero_le _, Nat.zero_le _⟩) hP hD hS hA [0, 1, 3] rfl (fun _ => rfl) (fun r9 u H locs hr9 hP hD hS => ?_)
      obtain ⟨u10, u11, u12, u13, u14, u15⟩ := u
      have hP : va_P D vwCl [(mm, .inr (7, [.ref nw, .ref pa, .int (iz (kp)), .ref zl, .ref hd, .ref pd, .int (iz (pn)), .int (iz (at0)), .ref os, .int (iz (od)), .int (iz (u10)), .int (iz (u11)), .int (iz (u12)), .int (iz (u13)), .int (iz (u14)), .int (iz (u15)), .ref mt, .ref cn])), (nw, .inl (T 0, 115, .inl (zA (mz (pl_ad Z 24))))), (os, .inl (T 0, 205, .inl (zA O))), (mt, .inl (T 0, 5025, .inl (zA u8)))] H := hP
      have hD : va_D A [(mm, .inr (7, [.ref nw, .ref pa, .int (iz (kp)), .ref zl, .ref hd, .ref pd, .int (iz (pn)), .int (iz (at0)), .ref os, .int (iz (od)), .int (iz (u10)), .int (iz (u11)), .int (iz (u12)), .int (iz (u13)), .int (iz (u14)), .int (iz (u15)), .ref mt, .ref cn])), (nw, .inl (T 0, 115, .inl (zA (mz (pl_ad Z 24))))), (os, .inl (T 0, 205, .inl (zA O))), (mt, .inl (T 0, 5025, .inl (zA u8)))] := hD
      subst hr9
      refine lv_pop hx hb dX7_does_99 rfl ?_
      refine lv_iload hx hb dX7_does_100 (lv_at hl 0 rfl) ?_
      have hZ : (mz (pl_ad Z 24) : Nat → Int) = mz (ot_z P n ip Z) := (by first | (rw [eoz97, if_pos hpl]; done) | (rw [eoz97, if_neg hpl]; done))
      have hP : va_P D vwCl [(mm, .inr (7, [.ref nw, .ref pa, .int (iz (kp)), .ref zl, .ref hd, .ref pd, .int (iz (pn)), .int (iz (at0)), .ref os, .int (iz (od)), .int (iz (u10)), .int (iz (u11)), .int (iz (u12)), .int (iz (u13)), .int (iz (u14)), .int (iz (u15)), .ref mt, .ref cn])), (nw, .inl (T 0, 115, .inl (zA (mz (ot_z P n ip Z))))), (os, .inl (T 0, 205, .inl (zA O))), (mt, .inl (T 0, 5025, .inl (zA u8)))] H := by rw [← hZ]; exact hP
      have hD : va_D A [(mm, .inr (7, [.ref nw, .ref pa, .int (iz (kp)), .ref zl, .ref hd, .ref pd, .int (iz (pn)), .int (iz (at0)), .ref os, .int (iz (od)), .int (iz (u10)), .int (iz (u11)), .int (iz (u12)), .int (iz (u13)), .int (iz (u14)), .int (iz (u15)), .ref mt, .ref cn])), (nw, .inl (T 0, 115, .inl (zA (mz (ot_z P n ip Z))))), (os, .inl (T 0, 205, .inl (zA O))), (mt, .inl (T 0, 5025, .inl (zA u8)))] := by rw [← hZ]; exact hD
      exact W.zret hx hb hr (kz_nar (by omega)) (fun t ht hW => ⟨⟨_, (u10, u11, u12, u13, u14, u15, u8), rfl, (congrArg iz (by first | (rw [if_pos (hnq.2 hpl), eor97, if_pos hpl, if_pos (by omega)]; done) | (rw [if_neg (fun q => hpl (hnq.1 q)), eor97, if_neg hpl, if_neg (by omega)]; done))), by show va_P _ _ _ t.heap; rw [ht]; exact hP⟩, hS.F ht⟩) hS.2.2 dX7_does_102
  · refine kz_lookIn (v := 99) (tgt := 103) (off := 46) hx hb dX7_does_57 (by decide) hs57 (by decide) (by decide) (by decide) ?_
    obtain ⟨oc1, oc2, oc3, oc4⟩ := hOD.2.1 (by omega)
    have hl : lv_has ls 9 [(6, .int (iz (O (5 * k + 4)))), (5, .int (iz (O (5 * k + 3)))), (4, .int (iz (O (5 * k + 2)))), (3, .int (iz (pn_val P n (ip + 1)))), (2, .int (iz (pd_s P n ip))), (0, .ref mm), (1, .int (iz (((k : Nat) : Int))))] := by rw [← (show (O (5 * k + 1) : Int) = pn_val P n (ip + 1) from oc1)]; exact hl
    have hl : lv_has ls 9 [(6, .int (iz (O (5 * k + 4)))), (5, .int (iz (O (5 * k + 3)))), (4, .int (iz (pn_val P n (pc_a P n (ip + 1))))), (3, .int (iz (pn_val P n (ip + 1)))), (2, .int (iz (pd_s P n ip))), (0, .ref mm), (1, .int (iz (((k : Nat) : Int))))] := by rw [← (show (O (5 * k + 2) : Int) = pn_val P n (pc_a P n (ip + 1)) from oc2)]; exact hl
    have hl : lv_has ls 9 [(6, .int (iz (O (5 * k + 4)))), (5, .int (iz (pn_val P n (pc_b P n (ip + 1))))), (4, .int (iz (pn_val P n (pc_a P n (ip + 1))))), (3, .int (iz (pn_val P n (ip + 1)))), (2, .int (iz (pd_s P n ip))), (0, .ref mm), (1, .int (iz (((k : Nat) : Int))))] := by rw [← (show (O (5 * k + 3) : Int) = pn_val P n (pc_b P n (ip + 1)) from oc3)]; exact hl
    have hl : lv_has ls 9 [(6, .int (iz (pn_val P n (pc_c P n (ip + 1))))), (5, .int (iz (pn_val P n (pc_b P n (ip + 1))))), (4, .int (iz (pn_val P n (pc_a P n (ip + 1))))), (3, .int (iz (pn_val P n (ip + 1)))), (2, .int (iz (pd_s P n ip))), (0, .ref mm), (1, .int (iz (((k : Nat) : Int))))] := by rw [← (show (O (5 * k + 4) : Int) = pn_val P n (pc_c P n (ip + 1)) from oc4)]; exact hl
    have hmr := mc_r_rng Z (pn_val P n (ip + 1)) (pn_val P n (pc_a P n (ip + 1))) (pn_val P n (pc_b P n (ip + 1))) (pn_val P n (pc_c P n (ip + 1)))
    have hcn := mc_con Z (pn_val P n (ip + 1)) (pn_val P n (pc_a P n (ip + 1))) (pn_val P n (pc_b P n (ip + 1))) (pn_val P n (pc_c P n (ip + 1)))
    have eor99 : ot_r P n ip Z = lk_rCon Z (pn_val P n (ip + 1)) (pn_val P n (pc_a P n (ip + 1))) (pn_val P n (pc_b P n (ip + 1))) (pn_val P n (pc_c P n (ip + 1))) := by rw [eor]; unfold or_r; rw [if_neg (show ¬ pd_s P n ip = 97 by omega)]; exact if_pos (by omega)
    have eoz99 : ot_z P n ip Z = lk_zCon Z (pn_val P n (ip + 1)) (pn_val P n (pc_a P n (ip + 1))) (pn_val P n (pc_b P n (ip + 1))) (pn_val P n (pc_c P n (ip + 1))) := by rw [eoz]; unfold or_z; rw [if_neg (show ¬ pd_s P n ip = 97 by omega)]; exact if_pos (by omega)
    refine lv_aload_n hx hb dX7_does_103 rfl (lv_at hl 5 rfl) ?_
    refine lv_iload_n hx hb dX7_does_104 rfl (lv_at hl 3 rfl) ?_
    refine lv_iload hx hb dX7_does_105 (lv_at hl 2 rfl) ?_
    refine lv_iload hx hb dX7_does_107 (lv_at hl 1 rfl) ?_
    refine lv_iload hx hb dX7_does_109 (lv_at hl 0 rfl) ?_
    refine kc_i (va_runV (As := [.int (iz (pn_val P n (ip + 1))), .int (iz (pn_val P n (pc_a P n (ip + 1)))), .int (iz (pn_val P n (pc_b P n (ip + 1)))), .int (iz (pn_val P n (pc_c P n (ip + 1))))]) (rest := []) ⟨hx, hb, hml, hown, hts⟩ (c_X7_mayContract l D T mm nw pa kp zl hd pd pn at0 os od dn pu lo2 sp2 lv2 wa mt cn Z (pn_val P n (ip + 1)) (pn_val P n (pc_a P n (ip + 1))) (pn_val P n (pc_b P n (ip + 1))) (pn_val P n (pc_c P n (ip + 1))) (by omega) (by omega) (by omega) (by omega) hV) (cwV 4 hts gX7_does_X7_mayContract rfl rfl rfl (by decide +kernel) ⟨Nat.le_of_ble_eq_true rfl, Nat.le_of_ble_eq_true rfl⟩) (kPc.v hK (va_recv hK.1 hP (ci := 7) (q0 := 0) rfl rfl) (kcut hP [0, 1] rfl)) rfl rfl hl.1 rfl (lv_room (Nat.le_of_ble_eq_true rfl)) dX7_does_111 ⟨Nat.zero_le _, Nat.zero_le _⟩) (fun r16 hr16 => ?_)
    subst hr16
    refine kz_if_ne (tgt := 121) hx hb dX7_does_114 (by decide) (by omega) (fun c114 => ?_) (fun c114 => ?_)
    · refine lv_iconst (v := iz (0)) hx hb dX7_does_121 (by decide) ?_
      refine lv_istore (lv' := [(8, .int (iz (0))), (6, .int (iz (pn_val P n (pc_c P n (ip + 1))))), (5, .int (iz (pn_val P n (pc_b P n (ip + 1))))), (4, .int (iz (pn_val P n (pc_a P n (ip + 1))))), (3, .int (iz (pn_val P n (ip + 1)))), (2, .int (iz (pd_s P n ip))), (0, .ref mm), (1, .int (iz (((k : Nat) : Int))))]) hx hb dX7_does_122 hl (by decide) rfl (fun ls hl => ?_)
      refine lv_iload hx hb dX7_does_124 (lv_at hl 0 rfl) ?_
      refine kz_if_eq (tgt := 141) hx hb dX7_does_126 (by decide) (by omega) (fun c126 => ?_) (fun c126 => False.elim (by omega))
      refine lv_iload hx hb dX7_does_141 (lv_at hl 0 rfl) ?_
      have hZ : (mz Z : Nat → Int) = mz (ot_z P n ip Z) := (by first | (rw [eoz99, hcn.2, if_pos (by omega)]; done) | (rw [eoz99, hcn.2, if_neg (by omega)]; done))
      have hP : va_P D vwCl [(mm, .inr (7, [.ref nw, .ref pa, .int (iz (kp)), .ref zl, .ref hd, .ref pd, .int (iz (pn)), .int (iz (at0)), .ref os, .int (iz (od)), .int (iz (dn)), .int (iz (pu)), .int (iz (lo2)), .int (iz (sp2)), .int (iz (lv2)), .int (iz (wa)), .ref mt, .ref cn])), (nw, .inl (T 0, 115, .inl (zA (mz (ot_z P n ip Z))))), (os, .inl (T 0, 205, .inl (zA O))), (mt, .inl (T 0, 5025, .inl (zA M)))] s.heap := by rw [← hZ]; exact hP
      have hD : va_D A [(mm, .inr (7, [.ref nw, .ref pa, .int (iz (kp)), .ref zl, .ref hd, .ref pd, .int (iz (pn)), .int (iz (at0)), .ref os, .int (iz (od)), .int (iz (dn)), .int (iz (pu)), .int (iz (lo2)), .int (iz (sp2)), .int (iz (lv2)), .int (iz (wa)), .ref mt, .ref cn])), (nw, .inl (T 0, 115, .inl (zA (mz (ot_z P n ip Z))))), (os, .inl (T 0, 205, .inl (zA O))), (mt, .inl (T 0, 5025, .inl (zA M)))] := by rw [← hZ]; exact hD
      exact W.zret hx hb hr (kz_nar (by omega)) (fun t ht hW => ⟨⟨_, (dn, pu, lo2, sp2, lv2, wa, M), rfl, (congrArg iz (by rw [eor99, hcn.1]; (repeat' split) <;> omega)), by show va_P _ _ _ t.heap; rw [ht]; exact hP⟩, hS.F ht⟩) hS.2.2 dX7_does_143
    · have h8 : Z 114 < 8 := by have c := c114; unfold mc_r at c; (repeat' split at c) <;> first | assumption | omega
      refine lv_iconst (v := iz (1)) hx hb dX7_does_117 (by decide) ?_
      refine lv_goto (tgt := 122) hx hb dX7_does_118 (by decide) ?_
      refine lv_istore (lv' := [(8, .int (iz (1))), (6, .int (iz (pn_val P n (pc_c P n (ip + 1))))), (5, .int (iz (pn_val P n (pc_b P n (ip + 1))))), (4, .int (iz (pn_val P n (pc_a P n (ip + 1))))), (3, .int (iz (pn_val P n (ip + 1)))), (2, .int (iz (pd_s P n ip))), (0, .ref mm), (1, .int (iz (((k : Nat) : Int))))]) hx hb dX7_does_122 hl (by decide) rfl (fun ls hl => ?_)
      refine lv_iload hx hb dX7_does_124 (lv_at hl 0 rfl) ?_
      refine kz_if_eq (tgt := 141) hx hb dX7_does_126 (by decide) (by omega) (fun c126 => False.elim (by omega)) (fun c126 => ?_)
      refine lv_aload_n hx hb dX7_does_129 rfl (lv_at hl 6 rfl) ?_
      refine lv_iload_n hx hb dX7_does_130 rfl (lv_at hl 4 rfl) ?_
      refine lv_iload hx hb dX7_does_131 (lv_at hl 3 rfl) ?_
      refine lv_iload hx hb dX7_does_133 (lv_at hl 2 rfl) ?_
      refine lv_iload hx hb dX7_does_135 (lv_at hl 1 rfl) ?_
      refine kc_wi (va_runV (As := [.int (iz (pn_val P n (ip + 1))), .int (iz (pn_val P n (pc_a P n (ip + 1)))), .int (iz (pn_val P n (pc_b P n (ip + 1)))), .int (iz (pn_val P n (pc_c P n (ip + 1))))]) (rest := []) ⟨hx, hb, hml, hown, hts⟩ (c_X7_comes l D T s.heap.size mm nw pa kp zl hd pd pn at0 os od dn pu lo2 sp2 lv2 wa mt cn Z (pn_val P n (ip + 1)) (pn_val P n (pc_a P n (ip + 1))) (pn_val P n (pc_b P n (ip + 1))) (pn_val P n (pc_c P n (ip + 1))) hV h8) (cwV 4 hts gX7_does_X7_comes rfl rfl rfl (by decide +kernel) ⟨Nat.le_of_ble_eq_true rfl, Nat.le_of_ble_eq_true rfl⟩) (kPc.v hK (va_recv hK.1 hP (ci := 7) (q0 := 0) rfl rfl) (kW.cut hP hD [0, 1] rfl (by rfl))) rfl rfl hl.1 rfl (lv_room (Nat.le_of_ble_eq_true rfl)) dX7_does_137 ⟨Nat.zero_le _, Nat.zero_le _⟩) hP hD hS hA [0, 1] rfl (fun _ => rfl) (fun r17 u H locs hr17 hP hD hS => ?_)
      have hP : va_P D vwCl [(mm, .inr (7, [.ref nw, .ref pa, .int (iz (kp)), .ref zl, .ref hd, .ref pd, .int (iz (pn)), .int (iz (at0)), .ref os, .int (iz (od)), .int (iz (dn)), .int (iz (pu)), .int (iz (lo2)), .int (iz (sp2)), .int (iz (lv2)), .int (iz (wa)), .ref mt, .ref cn])), (nw, .inl (T 0, 115, .inl (zA (mz (lk_lay Z (Z 114).toNat (pn_val P n (ip + 1)) (pn_val P n (pc_a P n (ip + 1))) (pn_val P n (pc_b P n (ip + 1))) (pn_val P n (pc_c P n (ip + 1)))))))), (os, .inl (T 0, 205, .inl (zA O))), (mt, .inl (T 0, 5025, .inl (zA M)))] H := hP
      have hD : va_D A [(mm, .inr (7, [.ref nw, .ref pa, .int (iz (kp)), .ref zl, .ref hd, .ref pd, .int (iz (pn)), .int (iz (at0)), .ref os, .int (iz (od)), .int (iz (dn)), .int (iz (pu)), .int (iz (lo2)), .int (iz (sp2)), .int (iz (lv2)), .int (iz (wa)), .ref mt, .ref cn])), (nw, .inl (T 0, 115, .inl (zA (mz (lk_lay Z (Z 114).toNat (pn_val P n (ip + 1)) (pn_val P n (pc_a P n (ip + 1))) (pn_val P n (pc_b P n (ip + 1))) (pn_val P n (pc_c P n (ip + 1)))))))), (os, .inl (T 0, 205, .inl (zA O))), (mt, .inl (T 0, 5025, .inl (zA M)))] := hD
      subst hr17
      refine lv_pop hx hb dX7_does_140 rfl ?_
      refine lv_iload hx hb dX7_does_141 (lv_at hl 0 rfl) ?_
      have hZ : (mz (lk_lay Z (Z 114).toNat (pn_val P n (ip + 1)) (pn_val P n (pc_a P n (ip + 1))) (pn_val P n (pc_b P n (ip + 1))) (pn_val P n (pc_c P n (ip + 1)))) : Nat → Int) = mz (ot_z P n ip Z) := (by first | (rw [eoz99, hcn.2, if_pos (by omega)]; done) | (rw [eoz99, hcn.2, if_neg (by omega)]; done))
      have hP : va_P D vwCl [(mm, .inr (7, [.ref nw, .ref pa, .int (iz (kp)), .ref zl, .ref hd, .ref pd, .int (iz (pn)), .int (iz (at0)), .ref os, .int (iz (od)), .int (iz (dn)), .int (iz (pu)), .int (iz (lo2)), .int (iz (sp2)), .int (iz (lv2)), .int (iz (wa)), .ref mt, .ref cn])), (nw, .inl (T 0, 115, .inl (zA (mz (ot_z P n ip Z))))), (os, .inl (T 0, 205, .inl (zA O))), (mt, .inl (T 0, 5025, .inl (zA M)))] H := by rw [← hZ]; exact hP
      have hD : va_D A [(mm, .inr (7, [.ref nw, .ref pa, .int (iz (kp)), .ref zl, .ref hd, .ref pd, .int (iz (pn)), .int (iz (at0)), .ref os, .int (iz (od)), .int (iz (dn)), .int (iz (pu)), .int (iz (lo2)), .int (iz (sp2)), .int (iz (lv2)), .int (iz (wa)), .ref mt, .ref cn])), (nw, .inl (T 0, 115, .inl (zA (mz (ot_z P n ip Z))))), (os, .inl (T 0, 205, .inl (zA O))), (mt, .inl (T 0, 5025, .inl (zA M)))] := by rw [← hZ]; exact hD
      exact W.zret hx hb hr (kz_nar (by omega)) (fun t ht hW => ⟨⟨_, (dn, pu, lo2, sp2, lv2, wa, M), rfl, (congrArg iz (by rw [eor99, hcn.1]; (repeat' split) <;> omega)), by show va_P _ _ _ t.heap; rw [ht]; exact hP⟩, hS.F ht⟩) hS.2.2 dX7_does_143
  · refine kz_lookOut (tgt := 144) hx hb dX7_does_57 (by decide) (by omega) (by obtain ⟨q0, q1⟩ := hs57; simp only [Op.lookupswitch.offset, if_neg (Ne.symm q0), if_neg (Ne.symm q1)]) (by decide) ?_
    obtain ⟨os1, os2, os3⟩ := hOD.2.2 (by omega) (by omega)
    have hpr := ph_rng (P := P) (n := n) (i := ip + 1) (by omega)
    have hl : lv_has ls 9 [(6, .int (iz (O (5 * k + 4)))), (5, .int (iz (O (5 * k + 3)))), (4, .int (iz (O (5 * k + 2)))), (3, .int (iz (pn_val P n (ip + 1)))), (2, .int (iz (pd_s P n ip))), (0, .ref mm), (1, .int (iz (((k : Nat) : Int))))] := by rw [← (show (O (5 * k + 1) : Int) = pn_val P n (ip + 1) from os1)]; exact hl
    have hl : lv_has ls 9 [(6, .int (iz (O (5 * k + 4)))), (5, .int (iz (O (5 * k + 3)))), (4, .int (iz (ph_last P n (ip + 1)))), (3, .int (iz (pn_val P n (ip + 1)))), (2, .int (iz (pd_s P n ip))), (0, .ref mm), (1, .int (iz (((k : Nat) : Int))))] := by rw [← (show (O (5 * k + 2) : Int) = ph_last P n (ip + 1) from os2)]; exact hl
    have hl : lv_has ls 9 [(6, .int (iz (O (5 * k + 4)))), (5, .int (iz (pv_val P n (pd_s P n ip) (ph_end P n (ip + 1) + 1)))), (4, .int (iz (ph_last P n (ip + 1)))), (3, .int (iz (pn_val P n (ip + 1)))), (2, .int (iz (pd_s P n ip))), (0, .ref mm), (1, .int (iz (((k : Nat) : Int))))] := by rw [← (show (O (5 * k + 3) : Int) = pv_val P n (pd_s P n ip) (ph_end P n (ip + 1) + 1) from os3)]; exact hl
    have eorS : ot_r P n ip Z = if ph_last P n (ip + 1) < pn_val P n (ip + 1) then -2 else oo_r (pd_s P n ip) (pv_val P n (pd_s P n ip) (ph_end P n (ip + 1) + 1)) (ph_last P n (ip + 1) - pn_val P n (ip + 1) + 1).toNat (pn_val P n (ip + 1)) Z (-1) := by rw [eor]; unfold or_r; rw [if_neg (show ¬ pd_s P n ip = 97 by omega)]; exact if_neg (by omega)
    have eozS : ot_z P n ip Z = if ph_last P n (ip + 1) < pn_val P n (ip + 1) then Z else oo_z (pd_s P n ip) (pv_val P n (pd_s P n ip) (ph_end P n (ip + 1) + 1)) (ph_last P n (ip + 1) - pn_val P n (ip + 1) + 1).toNat (pn_val P n (ip + 1)) Z := by rw [eoz]; unfold or_z; rw [if_neg (show ¬ pd_s P n ip = 97 by omega)]; exact if_neg (by omega)
    refine lv_aload_n hx hb dX7_does_144 rfl (lv_at hl 5 rfl) ?_
    refine lv_iload_n hx hb dX7_does_145 rfl (lv_at hl 4 rfl) ?_
    refine lv_bipush (v := iz (112)) hx hb dX7_does_146 (by decide) ?_
    refine kz_icmp_ne (tgt := 155) hx hb dX7_does_148 (by decide) (by omega) (by omega) (fun c148 => ?_) (fun c148 => ?_)
    · refine lv_iload_n hx hb dX7_does_155 rfl (lv_at hl 4 rfl) ?_
      refine lv_bipush (v := iz (105)) hx hb dX7_does_156 (by decide) ?_
      refine kz_icmp_ne (tgt := 165) hx hb dX7_does_158 (by decide) (by omega) (by omega) (fun c158 => ?_) (fun c158 => ?_)
      · refine lv_iconst (v := iz (3)) hx hb dX7_does_165 (by decide) ?_
        refine lv_iload_n hx hb dX7_does_166 rfl (lv_at hl 3 rfl) ?_
        refine lv_iload hx hb dX7_does_167 (lv_at hl 2 rfl) ?_
        refine lv_iload hx hb dX7_does_169 (lv_at hl 1 rfl) ?_
        refine kc_wi (va_runV (As := [.int (iz (3)), .int (iz (pn_val P n (ip + 1))), .int (iz (ph_last P n (ip + 1))), .int (iz (pv_val P n (pd_s P n ip) (ph_end P n (ip + 1) + 1)))]) (rest := []) ⟨hx, hb, hml, hown, hts⟩ (c_X7_changesAll l D T s.heap.size mm nw pa kp zl hd pd pn at0 os od dn pu lo2 sp2 lv2 wa mt cn Z (pd_s P n ip) 3 (pn_val P n (ip + 1)) (ph_last P n (ip + 1)) (pv_val P n (pd_s P n ip) (ph_end P n (ip + 1) + 1)) (by (repeat' split) <;> omega) (by omega) (by omega) hV) (cwV 4 hts gX7_does_X7_changesAll rfl rfl rfl (by decide +kernel) ⟨Nat.le_of_ble_eq_true rfl, Nat.le_of_ble_eq_true rfl⟩) (kPc.v hK (va_recv hK.1 hP (ci := 7) (q0 := 0) rfl rfl) (kW.cut hP hD [0, 1] rfl (by rfl))) rfl rfl hl.1 rfl (lv_room (Nat.le_of_ble_eq_true rfl)) dX7_does_171 ⟨Nat.zero_le _, Nat.zero_le _⟩) hP hD hS hA [0, 1] rfl (fun _ => rfl) (fun r18 u H locs hr18 hP hD hS => ?_)
        have hP : va_P D vwCl [(mm, .inr (7, [.ref nw, .ref pa, .int (iz (kp)), .ref zl, .ref hd, .ref pd, .int (iz (pn)), .int (iz (at0)), .ref os, .int (iz (od)), .int (iz (dn)), .int (iz (pu)), .int (iz (lo2)), .int (iz (sp2)), .int (iz (lv2)), .int (iz (wa)), .ref mt, .ref cn])), (nw, .inl (T 0, 115, .inl (zA (mz (if (ph_last P n (ip + 1)) < (pn_val P n (ip + 1)) then Z else oo_z (pd_s P n ip) (pv_val P n (pd_s P n ip) (ph_end P n (ip + 1) + 1)) ((ph_last P n (ip + 1)) - (pn_val P n (ip + 1)) + 1).toNat (pn_val P n (ip + 1)) Z))))), (os, .inl (T 0, 205, .inl (zA O))), (mt, .inl (T 0, 5025, .inl (zA M)))] H := hP
        have hD : va_D A [(mm, .inr (7, [.ref nw, .ref pa, .int (iz (kp)), .ref zl, .ref hd, .ref pd, .int (iz (pn)), .int (iz (at0)), .ref os, .int (iz (od)), .int (iz (dn)), .int (iz (pu)), .int (iz (lo2)), .int (iz (sp2)), .int (iz (lv2)), .int (iz (wa)), .ref mt, .ref cn])), (nw, .inl (T 0, 115, .inl (zA (mz (if (ph_last P n (ip + 1)) < (pn_val P n (ip + 1)) then Z else oo_z (pd_s P n ip) (pv_val P n (pd_s P n ip) (ph_end P n (ip + 1) + 1)) ((ph_last P n (ip + 1)) - (pn_val P n (ip + 1)) + 1).toNat (pn_val P n (ip + 1)) Z))))), (os, .inl (T 0, 205, .inl (zA O))), (mt, .inl (T 0, 5025, .inl (zA M)))] := hD
        subst hr18
        have hZ : (mz (if (ph_last P n (ip + 1)) < (pn_val P n (ip + 1)) then Z else oo_z (pd_s P n ip) (pv_val P n (pd_s P n ip) (ph_end P n (ip + 1) + 1)) ((ph_last P n (ip + 1)) - (pn_val P n (ip + 1)) + 1).toNat (pn_val P n (ip + 1)) Z) : Nat → Int) = mz (ot_z P n ip Z) := (by rw [eozS])
        have hP : va_P D vwCl [(mm, .inr (7, [.ref nw, .ref pa, .int (iz (kp)), .ref zl, .ref hd, .ref pd, .int (iz (pn)), .int (iz (at0)), .ref os, .int (iz (od)), .int (iz (dn)), .int (iz (pu)), .int (iz (lo2)), .int (iz (sp2)), .int (iz (lv2)), .int (iz (wa)), .ref mt, .ref cn])), (nw, .inl (T 0, 115, .inl (zA (mz (ot_z P n ip Z))))), (os, .inl (T 0, 205, .inl (zA O))), (mt, .inl (T 0, 5025, .inl (zA M)))] H := by rw [← hZ]; exact hP
        have hD : va_D A [(mm, .inr (7, [.ref nw, .ref pa, .int (iz (kp)), .ref zl, .ref hd, .ref pd, .int (iz (pn)), .int (iz (at0)), .ref os, .int (iz (od)), .int (iz (dn)), .int (iz (pu)), .int (iz (lo2)), .int (iz (sp2)), .int (iz (lv2)), .int (iz (wa)), .ref mt, .ref cn])), (nw, .inl (T 0, 115, .inl (zA (mz (ot_z P n ip Z))))), (os, .inl (T 0, 205, .inl (zA O))), (mt, .inl (T 0, 5025, .inl (zA M)))] := by rw [← hZ]; exact hD
        exact W.zret hx hb hr (kz_nar (by omega)) (fun t ht hW => ⟨⟨_, (dn, pu, lo2, sp2, lv2, wa, M), rfl, (congrArg iz (by rw [eorS]; (repeat' split) <;> omega)), by show va_P _ _ _ t.heap; rw [ht]; exact hP⟩, hS.F ht⟩) hS.2.2 dX7_does_174
      · refine lv_iconst (v := iz (2)) hx hb dX7_does_161 (by decide) ?_
        refine lv_goto (tgt := 166) hx hb dX7_does_162 (by decide) ?_
        refine lv_iload_n hx hb dX7_does_166 rfl (lv_at hl 3 rfl) ?_
        refine lv_iload hx hb dX7_does_167 (lv_at hl 2 rfl) ?_
        refine lv_iload hx hb dX7_does_169 (lv_at hl 1 rfl) ?_
        refine kc_wi (va_runV (As := [.int (iz (2)), .int (iz (pn_val P n (ip + 1))), .int (iz (ph_last P n (ip + 1))), .int (iz (pv_val P n (pd_s P n ip) (ph_end P n (ip + 1) + 1)))]) (rest := []) ⟨hx, hb, hml, hown, hts⟩ (c_X7_changesAll l D T s.heap.size mm nw pa kp zl hd pd pn at0 os od dn pu lo2 sp2 lv2 wa mt cn Z (pd_s P n ip) 2 (pn_val P n (ip + 1)) (ph_last P n (ip + 1)) (pv_val P n (pd_s P n ip) (ph_end P n (ip + 1) + 1)) (by (repeat' split) <;> omega) (by omega) (by omega) hV) (cwV 4 hts gX7_does_X7_changesAll rfl rfl rfl (by decide +kernel) ⟨Nat.le_of_ble_eq_true rfl, Nat.le_of_ble_eq_true rfl⟩) (kPc.v hK (va_recv hK.1 hP (ci := 7) (q0 := 0) rfl rfl) (kW.cut hP hD [0, 1] rfl (by rfl))) rfl rfl hl.1 rfl (lv_room (Nat.le_of_ble_eq_true rfl)) dX7_does_171 ⟨Nat.zero_le _, Nat.zero_le _⟩) hP hD hS hA [0, 1] rfl (fun _ => rfl) (fun r19 u H locs hr19 hP hD hS => ?_)
        have hP : va_P D vwCl [(mm, .inr (7, [.ref nw, .ref pa, .int (iz (kp)), .ref zl, .ref hd, .ref pd, .int (iz (pn)), .int (iz (at0)), .ref os, .int (iz (od)), .int (iz (dn)), .int (iz (pu)), .int (iz (lo2)), .int (iz (sp2)), .int (iz (lv2)), .int (iz (wa)), .ref mt, .ref cn])), (nw, .inl (T 0, 115, .inl (zA (mz (if (ph_last P n (ip + 1)) < (pn_val P n (ip + 1)) then Z else oo_z (pd_s P n ip) (pv_val P n (pd_s P n ip) (ph_end P n (ip + 1) + 1)) ((ph_last P n (ip + 1)) - (pn_val P n (ip + 1)) + 1).toNat (pn_val P n (ip + 1)) Z))))), (os, .inl (T 0, 205, .inl (zA O))), (mt, .inl (T 0, 5025, .inl (zA M)))] H := hP
        have hD : va_D A [(mm, .inr (7, [.ref nw, .ref pa, .int (iz (kp)), .ref zl, .ref hd, .ref pd, .int (iz (pn)), .int (iz (at0)), .ref os, .int (iz (od)), .int (iz (dn)), .int (iz (pu)), .int (iz (lo2)), .int (iz (sp2)), .int (iz (lv2)), .int (iz (wa)), .ref mt, .ref cn])), (nw, .inl (T 0, 115, .inl (zA (mz (if (ph_last P n (ip + 1)) < (pn_val P n (ip + 1)) then Z else oo_z (pd_s P n ip) (pv_val P n (pd_s P n ip) (ph_end P n (ip + 1) + 1)) ((ph_last P n (ip + 1)) - (pn_val P n (ip + 1)) + 1).toNat (pn_val P n (ip + 1)) Z))))), (os, .inl (T 0, 205, .inl (zA O))), (mt, .inl (T 0, 5025, .inl (zA M)))] := hD
        subst hr19
        have hZ : (mz (if (ph_last P n (ip + 1)) < (pn_val P n (ip + 1)) then Z else oo_z (pd_s P n ip) (pv_val P n (pd_s P n ip) (ph_end P n (ip + 1) + 1)) ((ph_last P n (ip + 1)) - (pn_val P n (ip + 1)) + 1).toNat (pn_val P n (ip + 1)) Z) : Nat → Int) = mz (ot_z P n ip Z) := (by rw [eozS])
        have hP : va_P D vwCl [(mm, .inr (7, [.ref nw, .ref pa, .int (iz (kp)), .ref zl, .ref hd, .ref pd, .int (iz (pn)), .int (iz (at0)), .ref os, .int (iz (od)), .int (iz (dn)), .int (iz (pu)), .int (iz (lo2)), .int (iz (sp2)), .int (iz (lv2)), .int (iz (wa)), .ref mt, .ref cn])), (nw, .inl (T 0, 115, .inl (zA (mz (ot_z P n ip Z))))), (os, .inl (T 0, 205, .inl (zA O))), (mt, .inl (T 0, 5025, .inl (zA M)))] H := by rw [← hZ]; exact hP
        have hD : va_D A [(mm, .inr (7, [.ref nw, .ref pa, .int (iz (kp)), .ref zl, .ref hd, .ref pd, .int (iz (pn)), .int (iz (at0)), .ref os, .int (iz (od)), .int (iz (dn)), .int (iz (pu)), .int (iz (lo2)), .int (iz (sp2)), .int (iz (lv2)), .int (iz (wa)), .ref mt, .ref cn])), (nw, .inl (T 0, 115, .inl (zA (mz (ot_z P n ip Z))))), (os, .inl (T 0, 205, .inl (zA O))), (mt, .inl (T 0, 5025, .inl (zA M)))] := by rw [← hZ]; exact hD
        exact W.zret hx hb hr (kz_nar (by omega)) (fun t ht hW => ⟨⟨_, (dn, pu, lo2, sp2, lv2, wa, M), rfl, (congrArg iz (by rw [eorS]; (repeat' split) <;> omega)), by show va_P _ _ _ t.heap; rw [ht]; exact hP⟩, hS.F ht⟩) hS.2.2 dX7_does_174
    · refine lv_iconst (v := iz (1)) hx hb dX7_does_151 (by decide) ?_
      refine lv_goto (tgt := 166) hx hb dX7_does_152 (by decide) ?_
      refine lv_iload_n hx hb dX7_does_166 rfl (lv_at hl 3 rfl) ?_
      refine lv_iload hx hb dX7_does_167 (lv_at hl 2 rfl) ?_
      refine lv_iload hx hb dX7_does_169 (lv_at hl 1 rfl) ?_
      refine kc_wi (va_runV (As := [.int (iz (1)), .int (iz (pn_val P n (ip + 1))), .int (iz (ph_last P n (ip + 1))), .int (iz (pv_val P n (pd_s P n ip) (ph_end P n (ip + 1) + 1)))]) (rest := []) ⟨hx, hb, hml, hown, hts⟩ (c_X7_changesAll l D T s.heap.size mm nw pa kp zl hd pd pn at0 os od dn pu lo2 sp2 lv2 wa mt cn Z (pd_s P n ip) 1 (pn_val P n (ip + 1)) (ph_last P n (ip + 1)) (pv_val P n (pd_s P n ip) (ph_end P n (ip + 1) + 1)) (by (repeat' split) <;> omega) (by omega) (by omega) hV) (cwV 4 hts gX7_does_X7_changesAll rfl rfl rfl (by decide +kernel) ⟨Nat.le_of_ble_eq_true rfl, Nat.le_of_ble_eq_true rfl⟩) (kPc.v hK (va_recv hK.1 hP (ci := 7) (q0 := 0) rfl rfl) (kW.cut hP hD [0, 1] rfl (by rfl))) rfl rfl hl.1 rfl (lv_room (Nat.le_of_ble_eq_true rfl)) dX7_does_171 ⟨Nat.zero_le _, Nat.zero_le _⟩) hP hD hS hA [0, 1] rfl (fun _ => rfl) (fun r20 u H locs hr20 hP hD hS => ?_)
      have hP : va_P D vwCl [(mm, .inr (7, [.ref nw, .ref pa, .int (iz (kp)), .ref zl, .ref hd, .ref pd, .int (iz (pn)), .int (iz (at0)), .ref os, .int (iz (od)), .int (iz (dn)), .int (iz (pu)), .int (iz (lo2)), .int (iz (sp2)), .int (iz (lv2)), .int (iz (wa)), .ref mt, .ref cn])), (nw, .inl (T 0, 115, .inl (zA (mz (if (ph_last P n (ip + 1)) < (pn_val P n (ip + 1)) then Z else oo_z (pd_s P n ip) (pv_val P n (pd_s P n ip) (ph_end P n (ip + 1) + 1)) ((ph_last P n (ip + 1)) - (pn_val P n (ip + 1)) + 1).toNat (pn_val P n (ip + 1)) Z))))), (os, .inl (T 0, 205, .inl (zA O))), (mt, .inl (T 0, 5025, .inl (zA M)))] H := hP
      have hD : va_D A [(mm, .inr (7, [.ref nw, .ref pa, .int (iz (kp)), .ref zl, .ref hd, .ref pd, .int (iz (pn)), .int (iz (at0)), .ref os, .int (iz (od)), .int (iz (dn)), .int (iz (pu)), .int (iz (lo2)), .int (iz (sp2)), .int (iz (lv2)), .int (iz (wa)), .ref mt, .ref cn])), (nw, .inl (T 0, 115, .inl (zA (mz (if (ph_last P n (ip + 1)) < (pn_val P n (ip + 1)) then Z else oo_z (pd_s P n ip) (pv_val P n (pd_s P n ip) (ph_end P n (ip + 1) + 1)) ((ph_last P n (ip + 1)) - (pn_val P n (ip + 1)) + 1).toNat (pn_val P n (ip + 1)) Z))))), (os, .inl (T 0, 205, .inl (zA O))), (mt, .inl (T 0, 5025, .inl (zA M)))] := hD
      subst hr20
      have hZ : (mz (if (ph_last P n (ip + 1)) < (pn_val P n (ip + 1)) then Z else oo_z (pd_s P n ip) (pv_val P n (pd_s P n ip) (ph_end P n (ip + 1) + 1)) ((ph_last P n (ip + 1)) - (pn_val P n (ip + 1)) + 1).toNat (pn_val P n (ip + 1)) Z) : Nat → Int) = mz (ot_z P n ip Z) := (by rw [eozS])
      have hP : va_P D vwCl [(mm, .inr (7, [.ref nw, .ref pa, .int (iz (kp)), .ref zl, .ref hd, .ref pd, .int (iz (pn)), .int (iz (at0)), .ref os, .int (iz (od)), .int (iz (dn)), .int (iz (pu)), .int (iz (lo2)), .int (iz (sp2)), .int (iz (lv2)), .int (iz (wa)), .ref mt, .ref cn])), (nw, .inl (T 0, 115, .inl (zA (mz (ot_z P n ip Z))))), (os, .inl (T 0, 205, .inl (zA O))), (mt, .inl (T 0, 5025, .inl (zA M)))] H := by rw [← hZ]; exact hP
      have hD : va_D A [(mm, .inr (7, [.ref nw, .ref pa, .int (iz (kp)), .ref zl, .ref hd, .ref pd, .int (iz (pn)), .int (iz (at0)), .ref os, .int (iz (od)), .int (iz (dn)), .int (iz (pu)), .int (iz (lo2)), .int (iz (sp2)), .int (iz (lv2)), .int (iz (wa)), .ref mt, .ref cn])), (nw, .inl (T 0, 115, .inl (zA (mz (ot_z P n ip Z))))), (os, .inl (T 0, 205, .inl (zA O))), (mt, .inl (T 0, 5025, .inl (zA M)))] := by rw [← hZ]; exact hD
      exact W.zret hx hb hr (kz_nar (by omega)) (fun t ht hW => ⟨⟨_, (dn, pu, lo2, sp2, lv2, wa, M), rfl, (congrArg iz (by rw [eorS]; (repeat' split) <;> omega)), by show va_P _ _ _ t.heap; rw [ht]; exact hP⟩, hS.F ht⟩) hS.2.2 dX7_does_174
