set_option maxHeartbeats 4000000 in
set_option maxRecDepth 100000 in
theorem c_X7_may (l : Launch) (D : va_G) (T : Nat → ClassId) (mm : Nat) (nw : Nat) (pa : Nat) (kp : Int) (zl : Nat) (hd : Nat) (pd : Nat) (pn : Int) (at0 : Int) (os : Nat) (od : Int) (dn : Int) (pu : Int) (lo2 : Int) (sp2 : Int) (lv2 : Int) (wa : Int) (mt : Nat) (cn : Nat) (Z : Nat → Int) (w : Int) (h3 : Int) (v : Int) (hiw : -2147483648 ≤ w ∧ w < 2147483648) (hih3 : -2147483648 ≤ h3 ∧ h3 < 2147483648) (hiv : -2147483648 ≤ v ∧ v < 2147483648) (hV : VL Z) : Met l yX7_may wsX7_may ({ frames := 2, cells := 0, slots := 0, locals := 42 }) (kPc D T [.ref mm, .int (iz (w)), .int (iz (h3)), .int (iz (v))] (va_P D vwCl [(mm, .inr (7, [.ref nw, .ref pa, .int (iz (kp)), .ref zl, .ref hd, .ref pd, .int (iz (pn)), .int (iz (at0)), .ref os, .int (iz (od)), .int (iz (dn)), .int (iz (pu)), .int (iz (lo2)), .int (iz (sp2)), .int (iz (lv2)), .int (iz (wa)), .ref mt, .ref cn])), (nw, .inl (T 0, 115, .inl (zA (mz Z))))])) (vp_Si (fun r : Int32 => r = iz (my_r Z w h3 v))) 0 0 (fun _ => False) := by
  refine Met.ofW (cc := cX7_may) (maxL := 5) (ret := (some .int)) (by decide) rfl ?_
  intro p e s m args below meth c s₁ B hml hv
  obtain ⟨rfl, hK, hP⟩ := hv
  have hx := B.exec
  have hb := B.bytes
  have hr := B.returns
  have hts := atoms_spec (ws := wsX7_may) B.pre
  have hown : s.vm.findClass RX7 = some m.cls := findClass_of_methodNamed B.named
  have hlocks := B.notSynchronized
  have w0 := hts (.fieldLink RX7 7 "LakePlantModel" "now" "[I") (List.mem_of_getElem? (i := 1) rfl)
  have w1 : ∀ w ∈ wsX70, w ∈ wsX7_may := by decide +kernel
  have hP : va_P D vwCl [(mm, .inr (7, [.ref nw, .ref pa, .int (iz (kp)), .ref zl, .ref hd, .ref pd, .int (iz (pn)), .int (iz (at0)), .ref os, .int (iz (od)), .int (iz (dn)), .int (iz (pu)), .int (iz (lo2)), .int (iz (sp2)), .int (iz (lv2)), .int (iz (wa)), .ref mt, .ref cn])), (nw, .inl (T 0, 115, .inl (zA (mz Z))))] s.heap := hP
  have hl := lv_entry ([.ref mm, .int (iz (w)), .int (iz (h3)), .int (iz (v))]) (n := 5) (Nat.le_of_ble_eq_true rfl)
  rw [lg_entry_eq]
  generalize (lg_sl ([.ref mm, .int (iz (w)), .int (iz (h3)), .int (iz (v))]) ++ List.replicate (5 - (lg_sl ([.ref mm, .int (iz (w)), .int (iz (h3)), .int (iz (v))])).length) Slot.unset).toArray = ls at hl ⊢
  have hl : lv_has ls 5 [(0, .ref mm), (1, .int (iz (w))), (2, .int (iz (h3))), (3, .int (iz (v)))] := hl
  have hs := hV.1
  unfold VS at hs
  refine lv_iload_n hx hb dX7_may_0 rfl (lv_at hl 2 rfl) ?_
  refine kc_i (va_runS (As := [.int (iz (h3))]) (rest := []) ⟨hx, hb, hml, hown, hts⟩ (c_X7_isHour l D T h3 (by omega)) (va_cwS 1 hts gX7_may_X7_isHour rfl rfl rfl (by decide +kernel) ⟨Nat.le_of_ble_eq_true rfl, Nat.le_of_ble_eq_true rfl⟩) (kPc.s hK (kcut hP [] rfl)) rfl rfl hl.1 rfl (lv_room (Nat.le_of_ble_eq_true rfl)) dX7_may_1 ⟨Nat.zero_le _, Nat.zero_le _⟩) (fun r1 hr1 => ?_)
  subst hr1
  refine kz_if_ne (tgt := 9) hx hb dX7_may_4 (by decide) (by omega) (fun c4 => ?_) (fun c4 => ?_)
  · have hin : 0 ≤ h3 ∧ h3 < 24 := by split at c4 <;> omega
    refine lv_iload_n hx hb dX7_may_9 rfl (lv_at hl 1 rfl) ?_
    refine lv_iconst (v := iz (1)) hx hb dX7_may_10 (by decide) ?_
    refine kz_icmp_ne (tgt := 25) hx hb dX7_may_11 (by decide) (by omega) (by omega) (fun c11 => ?_) (fun c11 => ?_)
    · refine lv_iload_n hx hb dX7_may_25 rfl (lv_at hl 1 rfl) ?_
      refine lv_iconst (v := iz (2)) hx hb dX7_may_26 (by decide) ?_
      refine kz_icmp_ne (tgt := 40) hx hb dX7_may_27 (by decide) (by omega) (by omega) (fun c27 => ?_) (fun c27 => ?_)
      · refine lv_iload_n hx hb dX7_may_40 rfl (lv_at hl 3 rfl) ?_
        refine lv_aload_n hx hb dX7_may_41 rfl (lv_at hl 0 rfl) ?_
        refine va_get (D := D) (ci := 7) (C := RX7) (T := TX7) (N := 18) hx hb hts w1 hown hK.1 hP 0 rfl rfl 0 (by decide) w0 (fun _ h9 => h9) rfl dX7_may_42 ?_
        refine lv_iconst (v := iz (0)) hx hb dX7_may_45 (by decide) ?_
        refine kz_iald hx hb hK hP (1) rfl (0) (by omega) (by omega) (by omega) dX7_may_46 ?_
        refine kz_top (y := Z 0) (mz_lo (by omega)) ?_
        refine kz_neg hx hb dX7_may_47 ?_
        refine lv_aload_n hx hb dX7_may_48 rfl (lv_at hl 0 rfl) ?_
        refine va_get (D := D) (ci := 7) (C := RX7) (T := TX7) (N := 18) hx hb hts w1 hown hK.1 hP 0 rfl rfl 0 (by decide) w0 (fun _ h9 => h9) rfl dX7_may_49 ?_
        refine lv_iconst (v := iz (1)) hx hb dX7_may_52 (by decide) ?_
        refine kz_iald hx hb hK hP (1) rfl (1) (by omega) (by omega) (by omega) dX7_may_53 ?_
        refine kz_top (y := Z 1) (mz_lo (by omega)) ?_
        refine kc_i (va_runS (As := [.int (iz (v)), .int (iz (-(Z 0))), .int (iz (Z 1))]) (rest := []) ⟨hx, hb, hml, hown, hts⟩ (c_X7_in l D T v (-(Z 0)) (Z 1) (by omega) (by omega) (by omega)) (va_cwS 3 hts gX7_may_X7_in rfl rfl rfl (by decide +kernel) ⟨Nat.le_of_ble_eq_true rfl, Nat.le_of_ble_eq_true rfl⟩) (kPc.s hK (kcut hP [] rfl)) rfl rfl hl.1 rfl (lv_room (Nat.le_of_ble_eq_true rfl)) dX7_may_54 ⟨Nat.zero_le _, Nat.zero_le _⟩) (fun r2 hr2 => ?_)
        subst hr2
        refine lv_istore (lv' := [(4, .int (iz (if (-(Z 0)) ≤ v ∧ v ≤ (Z 1) then 1 else 0))), (0, .ref mm), (1, .int (iz (w))), (2, .int (iz (h3))), (3, .int (iz (v)))]) hx hb dX7_may_57 hl (by decide) rfl (fun ls hl => ?_)
        refine lv_iload hx hb dX7_may_59 (lv_at hl 0 rfl) ?_
        refine kz_if_eq (tgt := 68) hx hb dX7_may_61 (by decide) (by omega) (fun c61 => ?_) (fun c61 => ?_)
        · have hxx : ¬ ((w = 1 ∧ 0 ≤ v ∧ v ≤ 999) ∨ (w = 2 ∧ 0 ≤ v ∧ v ≤ 99) ∨ ((w ≠ 1 ∧ w ≠ 2) ∧ -(Z 0) ≤ v ∧ v ≤ Z 1)) := by split at c61 <;> omega
          refine lv_bipush (v := iz (-2)) hx hb dX7_may_68 (by decide) ?_
          exact W.iret hx hb hr (fun t ht _ => ⟨_, rfl, (congrArg iz (by unfold my_r; rw [if_pos hin, if_neg hxx])), ht⟩) (fun _ h => absurd h List.not_mem_nil) dX7_may_70
        · have hxx : ((w = 1 ∧ 0 ≤ v ∧ v ≤ 999) ∨ (w = 2 ∧ 0 ≤ v ∧ v ≤ 99) ∨ ((w ≠ 1 ∧ w ≠ 2) ∧ -(Z 0) ≤ v ∧ v ≤ Z 1)) := by split at c61 <;> omega
          refine lv_iconst (v := iz (0)) hx hb dX7_may_64 (by decide) ?_
          refine lv_goto (tgt := 70) hx hb dX7_may_65 (by decide) ?_
          exact W.iret hx hb hr (fun t ht _ => ⟨_, rfl, (congrArg iz (by unfold my_r; rw [if_pos hin, if_pos hxx])), ht⟩) (fun _ h => absurd h List.not_mem_nil) dX7_may_70
      · refine lv_iload_n hx hb dX7_may_30 rfl (lv_at hl 3 rfl) ?_
        refine lv_iconst (v := iz (0)) hx hb dX7_may_31 (by decide) ?_
        refine lv_bipush (v := iz (99)) hx hb dX7_may_32 (by decide) ?_
        refine kc_i (va_runS (As := [.int (iz (v)), .int (iz (0)), .int (iz (99))]) (rest := []) ⟨hx, hb, hml, hown, hts⟩ (c_X7_in l D T v 0 99 (by omega) (by omega) (by omega)) (va_cwS 3 hts gX7_may_X7_in rfl rfl rfl (by decide +kernel) ⟨Nat.le_of_ble_eq_true rfl, Nat.le_of_ble_eq_true rfl⟩) (kPc.s hK (kcut hP [] rfl)) rfl rfl hl.1 rfl (lv_room (Nat.le_of_ble_eq_true rfl)) dX7_may_34 ⟨Nat.zero_le _, Nat.zero_le _⟩) (fun r3 hr3 => ?_)
        subst hr3
        refine lv_goto (tgt := 57) hx hb dX7_may_37 (by decide) ?_
        refine lv_istore (lv' := [(4, .int (iz (if 0 ≤ v ∧ v ≤ 99 then 1 else 0))), (0, .ref mm), (1, .int (iz (w))), (2, .int (iz (h3))), (3, .int (iz (v)))]) hx hb dX7_may_57 hl (by decide) rfl (fun ls hl => ?_)
        refine lv_iload hx hb dX7_may_59 (lv_at hl 0 rfl) ?_
        refine kz_if_eq (tgt := 68) hx hb dX7_may_61 (by decide) (by omega) (fun c61 => ?_) (fun c61 => ?_)
        · have hxx : ¬ ((w = 1 ∧ 0 ≤ v ∧ v ≤ 999) ∨ (w = 2 ∧ 0 ≤ v ∧ v ≤ 99) ∨ ((w ≠ 1 ∧ w ≠ 2) ∧ -(Z 0) ≤ v ∧ v ≤ Z 1)) := by split at c61 <;> omega
          refine lv_bipush (v := iz (-2)) hx hb dX7_may_68 (by decide) ?_
          exact W.iret hx hb hr (fun t ht _ => ⟨_, rfl, (congrArg iz (by unfold my_r; rw [if_pos hin, if_neg hxx])), ht⟩) (fun _ h => absurd h List.not_mem_nil) dX7_may_70
        · have hxx : ((w = 1 ∧ 0 ≤ v ∧ v ≤ 999) ∨ (w = 2 ∧ 0 ≤ v ∧ v ≤ 99) ∨ ((w ≠ 1 ∧ w ≠ 2) ∧ -(Z 0) ≤ v ∧ v ≤ Z 1)) := by split at c61 <;> omega
          refine lv_iconst (v := iz (0)) hx hb dX7_may_64 (by decide) ?_
          refine lv_goto (tgt := 70) hx hb dX7_may_65 (by decide) ?_
          exact W.iret hx hb hr (fun t ht _ => ⟨_, rfl, (congrArg iz (by unfold my_r; rw [if_pos hin, if_pos hxx])), ht⟩) (fun _ h => absurd h List.not_mem_nil) dX7_may_70
    · refine lv_iload_n hx hb dX7_may_14 rfl (lv_at hl 3 rfl) ?_
      refine lv_iconst (v := iz (0)) hx hb dX7_may_15 (by decide) ?_
      refine lv_sipush (v := iz (999)) hx hb dX7_may_16 (by decide) ?_
      refine kc_i (va_runS (As := [.int (iz (v)), .int (iz (0)), .int (iz (999))]) (rest := []) ⟨hx, hb, hml, hown, hts⟩ (c_X7_in l D T v 0 999 (by omega) (by omega) (by omega)) (va_cwS 3 hts gX7_may_X7_in rfl rfl rfl (by decide +kernel) ⟨Nat.le_of_ble_eq_true rfl, Nat.le_of_ble_eq_true rfl⟩) (kPc.s hK (kcut hP [] rfl)) rfl rfl hl.1 rfl (lv_room (Nat.le_of_ble_eq_true rfl)) dX7_may_19 ⟨Nat.zero_le _, Nat.zero_le _⟩) (fun r4 hr4 => ?_)
      subst hr4
      refine lv_goto (tgt := 57) hx hb dX7_may_22 (by decide) ?_
      refine lv_istore (lv' := [(4, .int (iz (if 0 ≤ v ∧ v ≤ 999 then 1 else 0))), (0, .ref mm), (1, .int (iz (w))), (2, .int (iz (h3))), (3, .int (iz (v)))]) hx hb dX7_may_57 hl (by decide) rfl (fun ls hl => ?_)
      refine lv_iload hx hb dX7_may_59 (lv_at hl 0 rfl) ?_
      refine kz_if_eq (tgt := 68) hx hb dX7_may_61 (by decide) (by omega) (fun c61 => ?_) (fun c61 => ?_)
      · have hxx : ¬ ((w = 1 ∧ 0 ≤ v ∧ v ≤ 999) ∨ (w = 2 ∧ 0 ≤ v ∧ v ≤ 99) ∨ ((w ≠ 1 ∧ w ≠ 2) ∧ -(Z 0) ≤ v ∧ v ≤ Z 1)) := by split at c61 <;> omega
        refine lv_bipush (v := iz (-2)) hx hb dX7_may_68 (by decide) ?_
        exact W.iret hx hb hr (fun t ht _ => ⟨_, rfl, (congrArg iz (by unfold my_r; rw [if_pos hin, if_neg hxx])), ht⟩) (fun _ h => absurd h List.not_mem_nil) dX7_may_70
      · have hxx : ((w = 1 ∧ 0 ≤ v ∧ v ≤ 999) ∨ (w = 2 ∧ 0 ≤ v ∧ v ≤ 99) ∨ ((w ≠ 1 ∧ w ≠ 2) ∧ -(Z 0) ≤ v ∧ v ≤ Z 1)) := by split at c61 <;> omega
        refine lv_iconst (v := iz (0)) hx hb dX7_may_64 (by decide) ?_
        refine lv_goto (tgt := 70) hx hb dX7_may_65 (by decide) ?_
        exact W.iret hx hb hr (fun t ht _ => ⟨_, rfl, (congrArg iz (by unfold my_r; rw [if_pos hin, if_pos hxx])), ht⟩) (fun _ h => absurd h List.not_mem_nil) dX7_may_70
  · have hin : ¬ (0 ≤ h3 ∧ h3 < 24) := by split at c4 <;> omega
    refine lv_iconst (v := iz (-1)) hx hb dX7_may_7 (by decide) ?_
    exact W.iret hx hb hr (fun t ht _ => ⟨_, rfl, (congrArg iz (by unfold my_r; rw [if_neg hin])), ht⟩) (fun _ h => absurd h List.not_mem_nil) dX7_may_8
set_option maxHeartbeats 4000000 in
set_option maxRecDepth 100000 in
theorem c_X7_placeOf (l : Launch) (D : va_G) (T : Nat → ClassId) (w : Int) (hiw : -2147483648 ≤ w ∧ w < 2147483648) : Met l yX7_placeOf wsX7_placeOf ({ frames := 0, cells := 0, slots := 0, locals := 0 }) (kPc D T [.int (iz (w))] (va_P D vwCl [])) (vp_Si (fun r : Int32 => r = iz (((my_p w : Nat) : Int)))) 0 0 (fun _ => False) := by
  refine Met.ofW (cc := cX7_placeOf) (maxL := 1) (ret := (some .int)) (by decide) rfl ?_
  intro p e s m args below meth c s₁ B hml hv
  obtain ⟨rfl, hK, hP⟩ := hv
  have hx := B.exec
  have hb := B.bytes
  have hr := B.returns
  have hts := atoms_spec (ws := wsX7_placeOf) B.pre
  have hown : s.vm.findClass RX7 = some m.cls := findClass_of_methodNamed B.named
  have hlocks := B.notSynchronized
  have hP : va_P D vwCl [] s.heap := hP
  have hl := lv_entry ([.int (iz (w))]) (n := 1) (Nat.le_of_ble_eq_true rfl)
  rw [lg_entry_eq]
  generalize (lg_sl ([.int (iz (w))]) ++ List.replicate (1 - (lg_sl ([.int (iz (w))])).length) Slot.unset).toArray = ls at hl ⊢
  have hl : lv_has ls 1 [(0, .int (iz (w)))] := hl
  refine lv_iload_n hx hb dX7_placeOf_0 rfl (lv_at hl 0 rfl) ?_
  refine lv_iconst (v := iz (1)) hx hb dX7_placeOf_1 (by decide) ?_
  refine kz_icmp_ne (tgt := 10) hx hb dX7_placeOf_2 (by decide) (by omega) (by omega) (fun c2 => ?_) (fun c2 => ?_)
  · refine lv_iload_n hx hb dX7_placeOf_10 rfl (lv_at hl 0 rfl) ?_
    refine lv_iconst (v := iz (2)) hx hb dX7_placeOf_11 (by decide) ?_
    refine kz_icmp_ne (tgt := 20) hx hb dX7_placeOf_12 (by decide) (by omega) (by omega) (fun c12 => ?_) (fun c12 => ?_)
    · refine lv_bipush (v := iz (58)) hx hb dX7_placeOf_20 (by decide) ?_
      exact W.iret hx hb hr (fun t ht _ => ⟨_, rfl, (congrArg iz (by unfold my_p; (repeat' split) <;> omega)), ht⟩) (fun _ h => absurd h List.not_mem_nil) dX7_placeOf_22
    · refine lv_bipush (v := iz (34)) hx hb dX7_placeOf_15 (by decide) ?_
      refine lv_goto (tgt := 22) hx hb dX7_placeOf_17 (by decide) ?_
      exact W.iret hx hb hr (fun t ht _ => ⟨_, rfl, (congrArg iz (by unfold my_p; (repeat' split) <;> omega)), ht⟩) (fun _ h => absurd h List.not_mem_nil) dX7_placeOf_22
  · refine lv_bipush (v := iz (10)) hx hb dX7_placeOf_5 (by decide) ?_
    refine lv_goto (tgt := 22) hx hb dX7_placeOf_7 (by decide) ?_
    exact W.iret hx hb hr (fun t ht _ => ⟨_, rfl, (congrArg iz (by unfold my_p; (repeat' split) <;> omega)), ht⟩) (fun _ h => absurd h List.not_mem_nil) dX7_placeOf_22
set_option maxHeartbeats 4000000 in
set_option maxRecDepth 100000 in
theorem c_X7_changesHour (l : Launch) (D : va_G) (T : Nat → ClassId) (sz : Nat) (mm : Nat) (nw : Nat) (pa : Nat) (kp : Int) (zl : Nat) (hd : Nat) (pd : Nat) (pn : Int) (at0 : Int) (os : Nat) (od : Int) (dn : Int) (pu : Int) (lo2 : Int) (sp2 : Int) (lv2 : Int) (wa : Int) (mt : Nat) (cn : Nat) (Z : Nat → Int) (w : Int) (h3 : Int) (v : Int) (hiw : -2147483648 ≤ w ∧ w < 2147483648) (hih3 : -2147483648 ≤ h3 ∧ h3 < 2147483648) (hiv : -2147483648 ≤ v ∧ v < 2147483648) (F0_ : Nat → Int) (hkp : 0 ≤ kp ∧ kp ≤ 6) (hV : VL Z) : Met l yX7_changesHour wsX7_changesHour ({ frames := 3, cells := 0, slots := 0, locals := 66 }) (kPc D T [.ref mm, .int (iz (w)), .int (iz (h3)), .int (iz (v))] (kW D sz [(mm, .inr (7, [.ref nw, .ref pa, .int (iz (kp)), .ref zl, .ref hd, .ref pd, .int (iz (pn)), .int (iz (at0)), .ref os, .int (iz (od)), .int (iz (dn)), .int (iz (pu)), .int (iz (lo2)), .int (iz (sp2)), .int (iz (lv2)), .int (iz (wa)), .ref mt, .ref cn])), (nw, .inl (T 0, 115, .inl (zA (mz Z)))), (pa, .inl (T 0, 690, .inl (zA F0_)))])) (va_Qi (fun (r : Int32) (u : Unit) => r = iz (if my_r Z w h3 v = 0 then Z (my_p w + h3.toNat) else my_r Z w h3 v)) (fun (u : Unit) (t : State) => va_P D vwCl [(mm, .inr (7, [.ref nw, .ref pa, .int (iz (if my_r Z w h3 v = 0 then rc_n kp else kp)), .ref zl, .ref hd, .ref pd, .int (iz (pn)), .int (iz (at0)), .ref os, .int (iz (od)), .int (iz (dn)), .int (iz (pu)), .int (iz (lo2)), .int (iz (sp2)), .int (iz (lv2)), .int (iz (wa)), .ref mt, .ref cn])), (nw, .inl (T 0, 115, .inl (zA (mz (my_z Z w h3 v))))), (pa, .inl (T 0, 690, .inl (zA (if my_r Z w h3 v = 0 then rc_F F0_ kp (mz Z) else F0_))))] t.heap) (va_A [(mm, .inr (7, [.ref nw, .ref pa, .int (iz (kp)), .ref zl, .ref hd, .ref pd, .int (iz (pn)), .int (iz (at0)), .ref os, .int (iz (od)), .int (iz (dn)), .int (iz (pu)), .int (iz (lo2)), .int (iz (sp2)), .int (iz (lv2)), .int (iz (wa)), .ref mt, .ref cn])), (nw, .inl (T 0, 115, .inl (zA (mz Z)))), (pa, .inl (T 0, 690, .inl (zA F0_)))] sz)) 0 0 (va_A [(mm, .inr (7, [.ref nw, .ref pa, .int (iz (kp)), .ref zl, .ref hd, .ref pd, .int (iz (pn)), .int (iz (at0)), .ref os, .int (iz (od)), .int (iz (dn)), .int (iz (pu)), .int (iz (lo2)), .int (iz (sp2)), .int (iz (lv2)), .int (iz (wa)), .ref mt, .ref cn])), (nw, .inl (T 0, 115, .inl (zA (mz Z)))), (pa, .inl (T 0, 690, .inl (zA F0_)))] sz) := by
  refine Met.ofW (cc := cX7_changesHour) (maxL := 5) (ret := (some .int)) (by decide) rfl ?_
  intro p e s m args below meth c s₁ B hml hv
  obtain ⟨rfl, hK, hsz, hP, hD0⟩ := hv
  have hx := B.exec
  have hb := B.bytes
  have hr := B.returns
  have hts := atoms_spec (ws := wsX7_changesHour) B.pre
  have hown : s.vm.findClass RX7 = some m.cls := findClass_of_methodNamed B.named
  have hlocks := B.notSynchronized
  subst hsz
  have hD := hD0.self (sz := s.heap.size)
  generalize hAe : va_A [(mm, .inr (7, [.ref nw, .ref pa, .int (iz (kp)), .ref zl, .ref hd, .ref pd, .int (iz (pn)), .int (iz (at0)), .ref os, .int (iz (od)), .int (iz (dn)), .int (iz (pu)), .int (iz (lo2)), .int (iz (sp2)), .int (iz (lv2)), .int (iz (wa)), .ref mt, .ref cn])), (nw, .inl (T 0, 115, .inl (zA (mz Z)))), (pa, .inl (T 0, 690, .inl (zA F0_)))] s.heap.size = A at hD ⊢
  have hA : ∀ q : Nat, s.heap.size ≤ q → A q := fun q h => by rw [← hAe]; exact Or.inr h
  have hS : va_S A s.heap s.heap [] := va_S.rf
  have hP : va_P D vwCl [(mm, .inr (7, [.ref nw, .ref pa, .int (iz (kp)), .ref zl, .ref hd, .ref pd, .int (iz (pn)), .int (iz (at0)), .ref os, .int (iz (od)), .int (iz (dn)), .int (iz (pu)), .int (iz (lo2)), .int (iz (sp2)), .int (iz (lv2)), .int (iz (wa)), .ref mt, .ref cn])), (nw, .inl (T 0, 115, .inl (zA (mz Z)))), (pa, .inl (T 0, 690, .inl (zA F0_)))] s.heap := hP
  have hl := lv_entry ([.ref mm, .int (iz (w)), .int (iz (h3)), .int (iz (v))]) (n := 5) (Nat.le_of_ble_eq_true rfl)
  rw [lg_entry_eq]
  generalize (lg_sl ([.ref mm, .int (iz (w)), .int (iz (h3)), .int (iz (v))]) ++ List.replicate (5 - (lg_sl ([.ref mm, .int (iz (w)), .int (iz (h3)), .int (iz (v))])).length) Slot.unset).toArray = ls at hl ⊢
  have hl : lv_has ls 5 [(0, .ref mm), (1, .int (iz (w))), (2, .int (iz (h3))), (3, .int (iz (v)))] := hl
  have hs := hV.1
  unfold VS at hs
  have hmr := my_r_rng Z w h3 v
  have hmp := my_p_rng w
  refine lv_aload_n hx hb dX7_changesHour_0 rfl (lv_at hl 0 rfl) ?_
  refine lv_iload_n hx hb dX7_changesHour_1 rfl (lv_at hl 1 rfl) ?_
  refine lv_iload_n hx hb dX7_changesHour_2 rfl (lv_at hl 2 rfl) ?_
  refine lv_iload_n hx hb dX7_changesHour_3 rfl (lv_at hl 3 rfl) ?_
  refine kc_i (va_runV (As := [.int (iz (w)), .int (iz (h3)), .int (iz (v))]) (rest := []) ⟨hx, hb, hml, hown, hts⟩ (c_X7_may l D T mm nw pa kp zl hd pd pn at0 os od dn pu lo2 sp2 lv2 wa mt cn Z w h3 v (by omega) (by omega) (by omega) hV) (cwV 3 hts gX7_changesHour_X7_may rfl rfl rfl (by decide +kernel) ⟨Nat.le_of_ble_eq_true rfl, Nat.le_of_ble_eq_true rfl⟩) (kPc.v hK (va_recv hK.1 hP (ci := 7) (q0 := 0) rfl rfl) (kcut hP [0, 1] rfl)) rfl rfl hl.1 rfl (lv_room (Nat.le_of_ble_eq_true rfl)) dX7_changesHour_4 ⟨Nat.zero_le _, Nat.zero_le _⟩) (fun r1 hr1 => ?_)
  subst hr1
  refine lv_istore (lv' := [(4, .int (iz (my_r Z w h3 v))), (0, .ref mm), (1, .int (iz (w))), (2, .int (iz (h3))), (3, .int (iz (v)))]) hx hb dX7_changesHour_7 hl (by decide) rfl (fun ls hl => ?_)
  refine lv_iload hx hb dX7_changesHour_9 (lv_at hl 0 rfl) ?_
  refine kz_if_eq (tgt := 17) hx hb dX7_changesHour_11 (by decide) (by omega) (fun c11 => ?_) (fun c11 => ?_)
  · have hin : 0 ≤ h3 ∧ h3 < 24 := by unfold my_r at c11; split at c11 <;> first | assumption | omega
    refine lv_aload_n hx hb dX7_changesHour_17 rfl (lv_at hl 1 rfl) ?_
    refine kc_wv (va_runV (As := []) (rest := []) ⟨hx, hb, hml, hown, hts⟩ (c_X7_records l D T s.heap.size mm nw pa kp zl hd pd pn at0 os od dn pu lo2 sp2 lv2 wa mt cn Z F0_ (by omega)) (cwV 0 hts gX7_changesHour_X7_records rfl rfl rfl (by decide +kernel) ⟨Nat.le_of_ble_eq_true rfl, Nat.le_of_ble_eq_true rfl⟩) (kPc.v hK (va_recv hK.1 hP (ci := 7) (q0 := 0) rfl rfl) (kW.cut hP hD [0, 1, 2] rfl (by rfl))) rfl rfl hl.1 rfl (lv_room (Nat.le_of_ble_eq_true rfl)) dX7_changesHour_18 ⟨Nat.zero_le _, Nat.zero_le _⟩) hP hD hS hA [0, 1, 2] rfl (fun _ => rfl) (fun u H locs hr2 hP hD hS => ?_)
    have hP : va_P D vwCl [(mm, .inr (7, [.ref nw, .ref pa, .int (iz (rc_n kp)), .ref zl, .ref hd, .ref pd, .int (iz (pn)), .int (iz (at0)), .ref os, .int (iz (od)), .int (iz (dn)), .int (iz (pu)), .int (iz (lo2)), .int (iz (sp2)), .int (iz (lv2)), .int (iz (wa)), .ref mt, .ref cn])), (nw, .inl (T 0, 115, .inl (zA (mz Z)))), (pa, .inl (T 0, 690, .inl (zA (rc_F F0_ kp (mz Z)))))] H := hP
    have hD : va_D A [(mm, .inr (7, [.ref nw, .ref pa, .int (iz (rc_n kp)), .ref zl, .ref hd, .ref pd, .int (iz (pn)), .int (iz (at0)), .ref os, .int (iz (od)), .int (iz (dn)), .int (iz (pu)), .int (iz (lo2)), .int (iz (sp2)), .int (iz (lv2)), .int (iz (wa)), .ref mt, .ref cn])), (nw, .inl (T 0, 115, .inl (zA (mz Z)))), (pa, .inl (T 0, 690, .inl (zA (rc_F F0_ kp (mz Z)))))] := hD
    refine lv_aload_n hx hb dX7_changesHour_21 rfl (lv_at hl 1 rfl) ?_
    refine lv_iload_n hx hb dX7_changesHour_22 rfl (lv_at hl 2 rfl) ?_
    refine kc_i (va_runS (As := [.int (iz (w))]) (rest := [.ref mm]) ⟨hx, hb, hml, hown, hts⟩ (c_X7_placeOf l D T w (by omega)) (va_cwS 1 hts gX7_changesHour_X7_placeOf rfl rfl rfl (by decide +kernel) ⟨Nat.le_of_ble_eq_true rfl, Nat.le_of_ble_eq_true rfl⟩) (kPc.s hK (kcut hP [] rfl)) rfl rfl hl.1 rfl (lv_room (Nat.le_of_ble_eq_true rfl)) dX7_changesHour_23 ⟨Nat.zero_le _, Nat.zero_le _⟩) (fun r3 hr3 => ?_)
    subst hr3
    refine lv_iload_n hx hb dX7_changesHour_26 rfl (lv_at hl 3 rfl) ?_
    refine kz_add hx hb dX7_changesHour_27 ?_
    refine kz_top (y := ((my_p w + h3.toNat : Nat) : Int)) (by omega) ?_
    refine lv_iload_n hx hb dX7_changesHour_28 rfl (lv_at hl 4 rfl) ?_
    refine kc_wi (va_runV (As := [.int (iz (((my_p w + h3.toNat : Nat) : Int))), .int (iz (v))]) (rest := []) ⟨hx, hb, hml, hown, hts⟩ (c_X7_changes l D T H.size mm nw pa (rc_n kp) zl hd pd pn at0 os od dn pu lo2 sp2 lv2 wa mt cn Z (my_p w + h3.toNat) (by omega) v) (cwV 2 hts gX7_changesHour_X7_changes rfl rfl rfl (by decide +kernel) ⟨Nat.le_of_ble_eq_true rfl, Nat.le_of_ble_eq_true rfl⟩) (kPc.v hK (va_recv hK.1 hP (ci := 7) (q0 := 0) rfl rfl) (kW.cut hP hD [0, 1] rfl (by rfl))) rfl rfl hl.1 rfl (lv_room (Nat.le_of_ble_eq_true rfl)) dX7_changesHour_29 ⟨Nat.zero_le _, Nat.zero_le _⟩) hP hD hS hA [0, 1] rfl (fun _ => rfl) (fun r4 u H locs hr4 hP hD hS => ?_)
    have hP : va_P D vwCl [(mm, .inr (7, [.ref nw, .ref pa, .int (iz ((rc_n kp))), .ref zl, .ref hd, .ref pd, .int (iz (pn)), .int (iz (at0)), .ref os, .int (iz (od)), .int (iz (dn)), .int (iz (pu)), .int (iz (lo2)), .int (iz (sp2)), .int (iz (lv2)), .int (iz (wa)), .ref mt, .ref cn])), (nw, .inl (T 0, 115, .inl (zA (mz (zup Z (my_p w + h3.toNat) v))))), (pa, .inl (T 0, 690, .inl (zA (rc_F F0_ kp (mz Z)))))] H := hP
    have hD : va_D A [(mm, .inr (7, [.ref nw, .ref pa, .int (iz ((rc_n kp))), .ref zl, .ref hd, .ref pd, .int (iz (pn)), .int (iz (at0)), .ref os, .int (iz (od)), .int (iz (dn)), .int (iz (pu)), .int (iz (lo2)), .int (iz (sp2)), .int (iz (lv2)), .int (iz (wa)), .ref mt, .ref cn])), (nw, .inl (T 0, 115, .inl (zA (mz (zup Z (my_p w + h3.toNat) v))))), (pa, .inl (T 0, 690, .inl (zA (rc_F F0_ kp (mz Z)))))] := hD
    subst hr4
    have hZ : ((rc_n kp) : Int) = if my_r Z w h3 v = 0 then rc_n kp else kp := (by rw [if_pos c11])
    have hP : va_P D vwCl [(mm, .inr (7, [.ref nw, .ref pa, .int (iz (if my_r Z w h3 v = 0 then rc_n kp else kp)), .ref zl, .ref hd, .ref pd, .int (iz (pn)), .int (iz (at0)), .ref os, .int (iz (od)), .int (iz (dn)), .int (iz (pu)), .int (iz (lo2)), .int (iz (sp2)), .int (iz (lv2)), .int (iz (wa)), .ref mt, .ref cn])), (nw, .inl (T 0, 115, .inl (zA (mz (zup Z (my_p w + h3.toNat) v))))), (pa, .inl (T 0, 690, .inl (zA (rc_F F0_ kp (mz Z)))))] H := by rw [← hZ]; exact hP
    have hD : va_D A [(mm, .inr (7, [.ref nw, .ref pa, .int (iz (if my_r Z w h3 v = 0 then rc_n kp else kp)), .ref zl, .ref hd, .ref pd, .int (iz (pn)), .int (iz (at0)), .ref os, .int (iz (od)), .int (iz (dn)), .int (iz (pu)), .int (iz (lo2)), .int (iz (sp2)), .int (iz (lv2)), .int (iz (wa)), .ref mt, .ref cn])), (nw, .inl (T 0, 115, .inl (zA (mz (zup Z (my_p w + h3.toNat) v))))), (pa, .inl (T 0, 690, .inl (zA (rc_F F0_ kp (mz Z)))))] := by rw [← hZ]; exact hD
    have hZ : (mz (zup Z (my_p w + h3.toNat) v) : Nat → Int) = mz (my_z Z w h3 v) := (by first | rfl | (unfold my_z; rw [if_pos c11]))
    have hP : va_P D vwCl [(mm, .inr (7, [.ref nw, .ref pa, .int (iz (if my_r Z w h3 v = 0 then rc_n kp else kp)), .ref zl, .ref hd, .ref pd, .int (iz (pn)), .int (iz (at0)), .ref os, .int (iz (od)), .int (iz (dn)), .int (iz (pu)), .int (iz (lo2)), .int (iz (sp2)), .int (iz (lv2)), .int (iz (wa)), .ref mt, .ref cn])), (nw, .inl (T 0, 115, .inl (zA (mz (my_z Z w h3 v))))), (pa, .inl (T 0, 690, .inl (zA (rc_F F0_ kp (mz Z)))))] H := by rw [← hZ]; exact hP
    have hD : va_D A [(mm, .inr (7, [.ref nw, .ref pa, .int (iz (if my_r Z w h3 v = 0 then rc_n kp else kp)), .ref zl, .ref hd, .ref pd, .int (iz (pn)), .int (iz (at0)), .ref os, .int (iz (od)), .int (iz (dn)), .int (iz (pu)), .int (iz (lo2)), .int (iz (sp2)), .int (iz (lv2)), .int (iz (wa)), .ref mt, .ref cn])), (nw, .inl (T 0, 115, .inl (zA (mz (my_z Z w h3 v))))), (pa, .inl (T 0, 690, .inl (zA (rc_F F0_ kp (mz Z)))))] := by rw [← hZ]; exact hD
    have hZ : (rc_F F0_ kp (mz Z) : Nat → Int) = if my_r Z w h3 v = 0 then rc_F F0_ kp (mz Z) else F0_ := (by rw [if_pos c11])
    have hP : va_P D vwCl [(mm, .inr (7, [.ref nw, .ref pa, .int (iz (if my_r Z w h3 v = 0 then rc_n kp else kp)), .ref zl, .ref hd, .ref pd, .int (iz (pn)), .int (iz (at0)), .ref os, .int (iz (od)), .int (iz (dn)), .int (iz (pu)), .int (iz (lo2)), .int (iz (sp2)), .int (iz (lv2)), .int (iz (wa)), .ref mt, .ref cn])), (nw, .inl (T 0, 115, .inl (zA (mz (my_z Z w h3 v))))), (pa, .inl (T 0, 690, .inl (zA (if my_r Z w h3 v = 0 then rc_F F0_ kp (mz Z) else F0_))))] H := by rw [← hZ]; exact hP
    have hD : va_D A [(mm, .inr (7, [.ref nw, .ref pa, .int (iz (if my_r Z w h3 v = 0 then rc_n kp else kp)), .ref zl, .ref hd, .ref pd, .int (iz (pn)), .int (iz (at0)), .ref os, .int (iz (od)), .int (iz (dn)), .int (iz (pu)), .int (iz (lo2)), .int (iz (sp2)), .int (iz (lv2)), .int (iz (wa)), .ref mt, .ref cn])), (nw, .inl (T 0, 115, .inl (zA (mz (my_z Z w h3 v))))), (pa, .inl (T 0, 690, .inl (zA (if my_r Z w h3 v = 0 then rc_F F0_ kp (mz Z) else F0_))))] := by rw [← hZ]; exact hD
    exact W.iret hx hb hr (fun t ht hW => ⟨⟨_, (), rfl, (congrArg iz (by rw [if_pos c11])), by show va_P _ _ _ t.heap; rw [ht]; exact hP⟩, hS.F ht⟩) hS.2.2 dX7_changesHour_32
  · refine lv_iload hx hb dX7_changesHour_14 (lv_at hl 0 rfl) ?_
    have hZ : (kp : Int) = if my_r Z w h3 v = 0 then rc_n kp else kp := (by rw [if_neg c11])
    have hP : va_P D vwCl [(mm, .inr (7, [.ref nw, .ref pa, .int (iz (if my_r Z w h3 v = 0 then rc_n kp else kp)), .ref zl, .ref hd, .ref pd, .int (iz (pn)), .int (iz (at0)), .ref os, .int (iz (od)), .int (iz (dn)), .int (iz (pu)), .int (iz (lo2)), .int (iz (sp2)), .int (iz (lv2)), .int (iz (wa)), .ref mt, .ref cn])), (nw, .inl (T 0, 115, .inl (zA (mz Z)))), (pa, .inl (T 0, 690, .inl (zA F0_)))] s.heap := by rw [← hZ]; exact hP
    have hD : va_D A [(mm, .inr (7, [.ref nw, .ref pa, .int (iz (if my_r Z w h3 v = 0 then rc_n kp else kp)), .ref zl, .ref hd, .ref pd, .int (iz (pn)), .int (iz (at0)), .ref os, .int (iz (od)), .int (iz (dn)), .int (iz (pu)), .int (iz (lo2)), .int (iz (sp2)), .int (iz (lv2)), .int (iz (wa)), .ref mt, .ref cn])), (nw, .inl (T 0, 115, .inl (zA (mz Z)))), (pa, .inl (T 0, 690, .inl (zA F0_)))] := by rw [← hZ]; exact hD
    have hZ : (mz Z : Nat → Int) = mz (my_z Z w h3 v) := (by first | rfl | (unfold my_z; rw [if_neg c11]))
    have hP : va_P D vwCl [(mm, .inr (7, [.ref nw, .ref pa, .int (iz (if my_r Z w h3 v = 0 then rc_n kp else kp)), .ref zl, .ref hd, .ref pd, .int (iz (pn)), .int (iz (at0)), .ref os, .int (iz (od)), .int (iz (dn)), .int (iz (pu)), .int (iz (lo2)), .int (iz (sp2)), .int (iz (lv2)), .int (iz (wa)), .ref mt, .ref cn])), (nw, .inl (T 0, 115, .inl (zA (mz (my_z Z w h3 v))))), (pa, .inl (T 0, 690, .inl (zA F0_)))] s.heap := by rw [← hZ]; exact hP
    have hD : va_D A [(mm, .inr (7, [.ref nw, .ref pa, .int (iz (if my_r Z w h3 v = 0 then rc_n kp else kp)), .ref zl, .ref hd, .ref pd, .int (iz (pn)), .int (iz (at0)), .ref os, .int (iz (od)), .int (iz (dn)), .int (iz (pu)), .int (iz (lo2)), .int (iz (sp2)), .int (iz (lv2)), .int (iz (wa)), .ref mt, .ref cn])), (nw, .inl (T 0, 115, .inl (zA (mz (my_z Z w h3 v))))), (pa, .inl (T 0, 690, .inl (zA F0_)))] := by rw [← hZ]; exact hD
    have hZ : (F0_ : Nat → Int) = if my_r Z w h3 v = 0 then rc_F F0_ kp (mz Z) else F0_ := (by rw [if_neg c11])
    have hP : va_P D vwCl [(mm, .inr (7, [.ref nw, .ref pa, .int (iz (if my_r Z w h3 v = 0 then rc_n kp else kp)), .ref zl, .ref hd, .ref pd, .int (iz (pn)), .int (iz (at0)), .ref os, .int (iz (od)), .int (iz (dn)), .int (iz (pu)), .int (iz (lo2)), .int (iz (sp2)), .int (iz (lv2)), .int (iz (wa)), .ref mt, .ref cn])), (nw, .inl (T 0, 115, .inl (zA (mz (my_z Z w h3 v))))), (pa, .inl (T 0, 690, .inl (zA (if my_r Z w h3 v = 0 then rc_F F0_ kp (mz Z) else F0_))))] s.heap := by rw [← hZ]; exact hP
    have hD : va_D A [(mm, .inr (7, [.ref nw, .ref pa, .int (iz (if my_r Z w h3 v = 0 then rc_n kp else kp)), .ref zl, .ref hd, .ref pd, .int (iz (pn)), .int (iz (at0)), .ref os, .int (iz (od)), .int (iz (dn)), .int (iz (pu)), .int (iz (lo2)), .int (iz (sp2)), .int (iz (lv2)), .int (iz (wa)), .ref mt, .ref cn])), (nw, .inl (T 0, 115, .inl (zA (mz (my_z Z w h3 v))))), (pa, .inl (T 0, 690, .inl (zA (if my_r Z w h3 v = 0 then rc_F F0_ kp (mz Z) else F0_))))] := by rw [← hZ]; exact hD
    exact W.iret hx hb hr (fun t ht hW => ⟨⟨_, (), rfl, (congrArg iz (by rw [if_neg c11])), by show va_P _ _ _ t.heap; rw [ht]; exact hP⟩, hS.F ht⟩) hS.2.2 dX7_changesHour_16
set_option maxHeartbeats 4000000 in
set_option maxRecDepth 100000 in
theorem c_X7_price (l : Launch) (D : va_G) (T : Nat → ClassId) (sz : Nat) (mm : Nat) (nw : Nat) (pa : Nat) (kp : Int) (zl : Nat) (hd : Nat) (pd : Nat) (pn : Int) (at0 : Int) (os : Nat) (od : Int) (dn : Int) (pu : Int) (lo2 : Int) (sp2 : Int) (lv2 : Int) (wa : Int) (mt : Nat) (cn : Nat) (Z : Nat → Int) (a : Int) (b : Int) (hia : -2147483648 ≤ a ∧ a < 2147483648) (hib : -2147483648 ≤ b ∧ b < 2147483648) (F0_ : Nat → Int) (hkp : 0 ≤ kp ∧ kp ≤ 6) (hV : VL Z) : Met l yX7_price wsX7_price ({ frames := 4, cells := 0, slots := 0, locals := 90 }) (kPc D T [.ref mm, .int (iz (a)), .int (iz (b))] (kW D sz [(mm, .inr (7, [.ref nw, .ref pa, .int (iz (kp)), .ref zl, .ref hd, .ref pd, .int (iz (pn)), .int (iz (at0)), .ref os, .int (iz (od)), .int (iz (dn)), .int (iz (pu)), .int (iz (lo2)), .int (iz (sp2)), .int (iz (lv2)), .int (iz (wa)), .ref mt, .ref cn])), (nw, .inl (T 0, 115, .inl (zA (mz Z)))), (pa, .inl (T 0, 690, .inl (zA F0_)))])) (va_Qi (fun (r : Int32) (u : Unit) => r = iz (lk_rAt 10 999 Z a b)) (fun (u : Unit) (t : State) => va_P D vwCl [(mm, .inr (7, [.ref nw, .ref pa, .int (iz (if my_r Z 1 a b = 0 then rc_n kp else kp)), .ref zl, .ref hd, .ref pd, .int (iz (pn)), .int (iz (at0)), .ref os, .int (iz (od)), .int (iz (dn)), .int (iz (pu)), .int (iz (lo2)), .int (iz (sp2)), .int (iz (lv2)), .int (iz (wa)), .ref mt, .ref cn])), (nw, .inl (T 0, 115, .inl (zA (mz (lk_zAt 10 999 Z a b))))), (pa, .inl (T 0, 690, .inl (zA (if my_r Z 1 a b = 0 then rc_F F0_ kp (mz Z) else F0_))))] t.heap) (va_A [(mm, .inr (7, [.ref nw, .ref pa, .int (iz (kp)), .ref zl, .ref hd, .ref pd, .int (iz (pn)), .int (iz (at0)), .ref os, .int (iz (od)), .int (iz (dn)), .int (iz (pu)), .int (iz (lo2)), .int (iz (sp2)), .int (iz (lv2)), .int (iz (wa)), .ref mt, .ref cn])), (nw, .inl (T 0, 115, .inl (zA (mz Z)))), (pa, .inl (T 0, 690, .inl (zA F0_)))] sz)) 0 0 (va_A [(mm, .inr (7, [.ref nw, .ref pa, .int (iz (kp)), .ref zl, .ref hd, .ref pd, .int (iz (pn)), .int (iz (at0)), .ref os, .int (iz (od)), .int (iz (dn)), .int (iz (pu)), .int (iz (lo2)), .int (iz (sp2)), .int (iz (lv2)), .int (iz (wa)), .ref mt, .ref cn])), (nw, .inl (T 0, 115, .inl (zA (mz Z)))), (pa, .inl (T 0, 690, .inl (zA F0_)))] sz) := by
  refine Met.ofW (cc := cX7_price) (maxL := 3) (ret := (some .int)) (by decide) rfl ?_
  intro p e s m args below meth c s₁ B hml hv
  obtain ⟨rfl, hK, hsz, hP, hD0⟩ := hv
  have hx := B.exec
  have hb := B.bytes
  have hr := B.returns
  have hts := atoms_spec (ws := wsX7_price) B.pre
  have hown : s.vm.findClass RX7 = some m.cls := findClass_of_methodNamed B.named
  have hlocks := B.notSynchronized
  subst hsz
  have hD := hD0.self (sz := s.heap.size)
  generalize hAe : va_A [(mm, .inr (7, [.ref nw, .ref pa, .int (iz (kp)), .ref zl, .ref hd, .ref pd, .int (iz (pn)), .int (iz (at0)), .ref os, .int (iz (od)), .int (iz (dn)), .int (iz (pu)), .int (iz (lo2)), .int (iz (sp2)), .int (iz (lv2)), .int (iz (wa)), .ref mt, .ref cn])), (nw, .inl (T 0, 115, .inl (zA (mz Z)))), (pa, .inl (T 0, 690, .inl (zA F0_)))] s.heap.size = A at hD ⊢
  have hA : ∀ q : Nat, s.heap.size ≤ q → A q := fun q h => by rw [← hAe]; exact Or.inr h
  have hS : va_S A s.heap s.heap [] := va_S.rf
  have hP : va_P D vwCl [(mm, .inr (7, [.ref nw, .ref pa, .int (iz (kp)), .ref zl, .ref hd, .ref pd, .int (iz (pn)), .int (iz (at0)), .ref os, .int (iz (od)), .int (iz (dn)), .int (iz (pu)), .int (iz (lo2)), .int (iz (sp2)), .int (iz (lv2)), .int (iz (wa)), .ref mt, .ref cn])), (nw, .inl (T 0, 115, .inl (zA (mz Z)))), (pa, .inl (T 0, 690, .inl (zA F0_)))] s.heap := hP
  have hl := lv_entry ([.ref mm, .int (iz (a)), .int (iz (b))]) (n := 3) (Nat.le_of_ble_eq_true rfl)
  rw [lg_entry_eq]
  generalize (lg_sl ([.ref mm, .int (iz (a)), .int (iz (b))]) ++ List.replicate (3 - (lg_sl ([.ref mm, .int (iz (a)), .int (iz (b))])).length) Slot.unset).toArray = ls at hl ⊢
  have hl : lv_has ls 3 [(0, .ref mm), (1, .int (iz (a))), (2, .int (iz (b)))] := hl
  refine lv_aload_n hx hb dX7_price_0 rfl (lv_at hl 0 rfl) ?_
  refine lv_iconst (v := iz (1)) hx hb dX7_price_1 (by decide) ?_
  refine lv_iload_n hx hb dX7_price_2 rfl (lv_at hl 1 rfl) ?_
  refine lv_iload_n hx hb dX7_price_3 rfl (lv_at hl 2 rfl) ?_
  refine kc_wi (va_runV (As := [.int (iz (1)), .int (iz (a)), .int (iz (b))]) (rest := []) ⟨hx, hb, hml, hown, hts⟩ (c_X7_changesHour l D T s.heap.size mm nw pa kp zl hd pd pn at0 os od dn pu lo2 sp2 lv2 wa mt cn Z 1 a b (by omega) (by omega) (by omega) F0_ (by omega) hV) (cwV 3 hts gX7_price_X7_changesHour rfl rfl rfl (by decide +kernel) ⟨Nat.le_of_ble_eq_true rfl, Nat.le_of_ble_eq_true rfl⟩) (kPc.v hK (va_recv hK.1 hP (ci := 7) (q0 := 0) rfl rfl) (kW.cut hP hD [0, 1, 2] rfl (by rfl))) rfl rfl hl.1 rfl (lv_room (Nat.le_of_ble_eq_true rfl)) dX7_price_4 ⟨Nat.zero_le _, Nat.zero_le _⟩) hP hD hS hA [0, 1, 2] rfl (fun _ => rfl) (fun r1 u H locs hr1 hP hD hS => ?_)
  have hP : va_P D vwCl [(mm, .inr (7, [.ref nw, .ref pa, .int (iz (if my_r Z 1 a b = 0 then rc_n kp else kp)), .ref zl, .ref hd, .ref pd, .int (iz (pn)), .int (iz (at0)), .ref os, .int (iz (od)), .int (iz (dn)), .int (iz (pu)), .int (iz (lo2)), .int (iz (sp2)), .int (iz (lv2)), .int (iz (wa)), .ref mt, .ref cn])), (nw, .inl (T 0, 115, .inl (zA (mz (my_z Z 1 a b))))), (pa, .inl (T 0, 690, .inl (zA (if my_r Z 1 a b = 0 then rc_F F0_ kp (mz Z) else F0_))))] H := hP
  have hD : va_D A [(mm, .inr (7, [.ref nw, .ref pa, .int (iz (if my_r Z 1 a b = 0 then rc_n kp else kp)), .ref zl, .ref hd, .ref pd, .int (iz (pn)), .int (iz (at0)), .ref os, .int (iz (od)), .int (iz (dn)), .int (iz (pu)), .int (iz (lo2)), .int (iz (sp2)), .int (iz (lv2)), .int (iz (wa)), .ref mt, .ref cn])), (nw, .inl (T 0, 115, .inl (zA (mz (my_z Z 1 a b))))), (pa, .inl (T 0, 690, .inl (zA (if my_r Z 1 a b = 0 then rc_F F0_ kp (mz Z) else F0_))))] := hD
  subst hr1
  have hZ : (mz (my_z Z 1 a b) : Nat → Int) = mz (lk_zAt 10 999 Z a b) := (by rw [(my_price Z a b).2])
  have hP : va_P D vwCl [(mm, .inr (7, [.ref nw, .ref pa, .int (iz (if my_r Z 1 a b = 0 then rc_n kp else kp)), .ref zl, .ref hd, .ref pd, .int (iz (pn)), .int (iz (at0)), .ref os, .int (iz (od)), .int (iz (dn)), .int (iz (pu)), .int (iz (lo2)), .int (iz (sp2)), .int (iz (lv2)), .int (iz (wa)), .ref mt, .ref cn])), (nw, .inl (T 0, 115, .inl (zA (mz (lk_zAt 10 999 Z a b))))), (pa, .inl (T 0, 690, .inl (zA (if my_r Z 1 a b = 0 then rc_F F0_ kp (mz Z) else F0_))))] H := by rw [← hZ]; exact hP
  have hD : va_D A [(mm, .inr (7, [.ref nw, .ref pa, .int (iz (if my_r Z 1 a b = 0 then rc_n kp else kp)), .ref zl, .ref hd, .ref pd, .int (iz (pn)), .int (iz (at0)), .ref os, .int (iz (od)), .int (iz (dn)), .int (iz (pu)), .int (iz (lo2)), .int (iz (sp2)), .int (iz (lv2)), .int (iz (wa)), .ref mt, .ref cn])), (nw, .inl (T 0, 115, .inl (zA (mz (lk_zAt 10 999 Z a b))))), (pa, .inl (T 0, 690, .inl (zA (if my_r Z 1 a b = 0 then rc_F F0_ kp (mz Z) else F0_))))] := by rw [← hZ]; exact hD
  exact W.iret hx hb hr (fun t ht hW => ⟨⟨_, (), rfl, (congrArg iz (my_price Z a b).1.symm), by show va_P _ _ _ t.heap; rw [ht]; exact hP⟩, hS.F ht⟩) hS.2.2 dX7_price_7
set_option maxHeartbeats 4000000 in
set_option maxRecDepth 100000 in
theorem c_X7_inflow (l : Launch) (D : va_G) (T : Nat → ClassId) (sz : Nat) (mm : Nat) (nw : Nat) (pa : Nat) (kp : Int) (zl : Nat) (hd : Nat) (pd : Nat) (pn : Int) (at0 : Int) (os : Nat) (od : Int) (dn : Int) (pu : Int) (lo2 : Int) (sp2 : Int) (lv2 : Int) (wa : Int) (mt : Nat) (cn : Nat) (Z : Nat → Int) (a : Int) (b : Int) (hia : -2147483648 ≤ a ∧ a < 2147483648) (hib : -2147483648 ≤ b ∧ b < 2147483648) (F0_ : Nat → Int) (hkp : 0 ≤ kp ∧ kp ≤ 6) (hV : VL Z) : Met l yX7_inflow wsX7_inflow ({ frames := 4, cells := 0, slots := 0, locals := 90 }) (kPc D T [.ref mm, .int (iz (a)), .int (iz (b))] (kW D sz [(mm, .inr (7, [.ref nw, .ref pa, .int (iz (kp)), .ref zl, .ref hd, .ref pd, .int (iz (pn)), .int (iz (at0)), .ref os, .int (iz (od)), .int (iz (dn)), .int (iz (pu)), .int (iz (lo2)), .int (iz (sp2)), .int (iz (lv2)), .int (iz (wa)), .ref mt, .ref cn])), (nw, .inl (T 0, 115, .inl (zA (mz Z)))), (pa, .inl (T 0, 690, .inl (zA F0_)))])) (va_Qi (fun (r : Int32) (u : Unit) => r = iz (lk_rAt 34 99 Z a b)) (fun (u : Unit) (t : State) => va_P D vwCl [(mm, .inr (7, [.ref nw, .ref pa, .int (iz (if my_r Z 2 a b = 0 then rc_n kp else kp)), .ref zl, .ref hd, .ref pd, .int (iz (pn)), .int (iz (at0)), .ref os, .int (iz (od)), .int (iz (dn)), .int (iz (pu)), .int (iz (lo2)), .int (iz (sp2)), .int (iz (lv2)), .int (iz (wa)), .ref mt, .ref cn])), (nw, .inl (T 0, 115, .inl (zA (mz (lk_zAt 34 99 Z a b))))), (pa, .inl (T 0, 690, .inl (zA (if my_r Z 2 a b = 0 then rc_F F0_ kp (mz Z) else F0_))))] t.heap) (va_A [(mm, .inr (7, [.ref nw, .ref pa, .int (iz (kp)), .ref zl, .ref hd, .ref pd, .int (iz (pn)), .int (iz (at0)), .ref os, .int (iz (od)), .int (iz (dn)), .int (iz (pu)), .int (iz (lo2)), .int (iz (sp2)), .int (iz (lv2)), .int (iz (wa)), .ref mt, .ref cn])), (nw, .inl (T 0, 115, .inl (zA (mz Z)))), (pa, .inl (T 0, 690, .inl (zA F0_)))] sz)) 0 0 (va_A [(mm, .inr (7, [.ref nw, .ref pa, .int (iz (kp)), .ref zl, .ref hd, .ref pd, .int (iz (pn)), .int (iz (at0)), .ref os, .int (iz (od)), .int (iz (dn)), .int (iz (pu)), .int (iz (lo2)), .int (iz (sp2)), .int (iz (lv2)), .int (iz (wa)), .ref mt, .ref cn])), (nw, .inl (T 0, 115, .inl (zA (mz Z)))), (pa, .inl (T 0, 690, .inl (zA F0_)))] sz) := by
  refine Met.ofW (cc := cX7_inflow) (maxL := 3) (ret := (some .int)) (by decide) rfl ?_
  intro p e s m args below meth c s₁ B hml hv
  obtain ⟨rfl, hK, hsz, hP, hD0⟩ := hv
  have hx := B.exec
  have hb := B.bytes
  have hr := B.returns
  have hts := atoms_spec (ws := wsX7_inflow) B.pre
  have hown : s.vm.findClass RX7 = some m.cls := findClass_of_methodNamed B.named
  have hlocks := B.notSynchronized
  subst hsz
  have hD := hD0.self (sz := s.heap.size)
  generalize hAe : va_A [(mm, .inr (7, [.ref nw, .ref pa, .int (iz (kp)), .ref zl, .ref hd, .ref pd, .int (iz (pn)), .int (iz (at0)), .ref os, .int (iz (od)), .int (iz (dn)), .int (iz (pu)), .int (iz (lo2)), .int (iz (sp2)), .int (iz (lv2)), .int (iz (wa)), .ref mt, .ref cn])), (nw, .inl (T 0, 115, .inl (zA (mz Z)))), (pa, .inl (T 0, 690, .inl (zA F0_)))] s.heap.size = A at hD ⊢
  have hA : ∀ q : Nat, s.heap.size ≤ q → A q := fun q h => by rw [← hAe]; exact Or.inr h
  have hS : va_S A s.heap s.heap [] := va_S.rf
  have hP : va_P D vwCl [(mm, .inr (7, [.ref nw, .ref pa, .int (iz (kp)), .ref zl, .ref hd, .ref pd, .int (iz (pn)), .int (iz (at0)), .ref os, .int (iz (od)), .int (iz (dn)), .int (iz (pu)), .int (iz (lo2)), .int (iz (sp2)), .int (iz (lv2)), .int (iz (wa)), .ref mt, .ref cn])), (nw, .inl (T 0, 115, .inl (zA (mz Z)))), (pa, .inl (T 0, 690, .inl (zA F0_)))] s.heap := hP
  have hl := lv_entry ([.ref mm, .int (iz (a)), .int (iz (b))]) (n := 3) (Nat.le_of_ble_eq_true rfl)
  rw [lg_entry_eq]
  generalize (lg_sl ([.ref mm, .int (iz (a)), .int (iz (b))]) ++ List.replicate (3 - (lg_sl ([.ref mm, .int (iz (a)), .int (iz (b))])).length) Slot.unset).toArray = ls at hl ⊢
  have hl : lv_has ls 3 [(0, .ref mm), (1, .int (iz (a))), (2, .int (iz (b)))] := hl
  refine lv_aload_n hx hb dX7_inflow_0 rfl (lv_at hl 0 rfl) ?_
  refine lv_iconst (v := iz (2)) hx hb dX7_inflow_1 (by decide) ?_
  refine lv_iload_n hx hb dX7_inflow_2 rfl (lv_at hl 1 rfl) ?_
  refine lv_iload_n hx hb dX7_inflow_3 rfl (lv_at hl 2 rfl) ?_
  refine kc_wi (va_runV (As := [.int (iz (2)), .int (iz (a)), .int (iz (b))]) (rest := []) ⟨hx, hb, hml, hown, hts⟩ (c_X7_changesHour l D T s.heap.size mm nw pa kp zl hd pd pn at0 os od dn pu lo2 sp2 lv2 wa mt cn Z 2 a b (by omega) (by omega) (by omega) F0_ (by omega) hV) (cwV 3 hts gX7_inflow_X7_changesHour rfl rfl rfl (by decide +kernel) ⟨Nat.le_of_ble_eq_true rfl, Nat.le_of_ble_eq_true rfl⟩) (kPc.v hK (va_recv hK.1 hP (ci := 7) (q0 := 0) rfl rfl) (kW.cut hP hD [0, 1, 2] rfl (by rfl))) rfl rfl hl.1 rfl (lv_room (Nat.le_of_ble_eq_true rfl)) dX7_inflow_4 ⟨Nat.zero_le _, Nat.zero_le _⟩) hP hD hS hA [0, 1, 2] rfl (fun _ => rfl) (fun r1 u H locs hr1 hP hD hS => ?_)
  have hP : va_P D vwCl [(mm, .inr (7, [.ref nw, .ref pa, .int (iz (if my_r Z 2 a b = 0 then rc_n kp else kp)), .ref zl, .ref hd, .ref pd, .int (iz (pn)), .int (iz (at0)), .ref os, .int (iz (od)), .int (iz (dn)), .int (iz (pu)), .int (iz (lo2)), .int (iz (sp2)), .int (iz (lv2)), .int (iz (wa)), .ref mt, .ref cn])), (nw, .inl (T 0, 115, .inl (zA (mz (my_z Z 2 a b))))), (pa, .inl (T 0, 690, .inl (zA (if my_r Z 2 a b = 0 then rc_F F0_ kp (mz Z) else F0_))))] H := hP
  have hD : va_D A [(mm, .inr (7, [.ref nw, .ref pa, .int (iz (if my_r Z 2 a b = 0 then rc_n kp else kp)), .ref zl, .ref hd, .ref pd, .int (iz (pn)), .int (iz (at0)), .ref os, .int (iz (od)), .int (iz (dn)), .int (iz (pu)), .int (iz (lo2)), .int (iz (sp2)), .int (iz (lv2)), .int (iz (wa)), .ref mt, .ref cn])), (nw, .inl (T 0, 115, .inl (zA (mz (my_z Z 2 a b))))), (pa, .inl (T 0, 690, .inl (zA (if my_r Z 2 a b = 0 then rc_F F0_ kp (mz Z) else F0_))))] := hD
  subst hr1
  have hZ : (mz (my_z Z 2 a b) : Nat → Int) = mz (lk_zAt 34 99 Z a b) := (by rw [(my_inflow Z a b).2])
  have hP : va_P D vwCl [(mm, .inr (7, [.ref nw, .ref pa, .int (iz (if my_r Z 2 a b = 0 then rc_n kp else kp)), .ref zl, .ref hd, .ref pd, .int (iz (pn)), .int (iz (at0)), .ref os, .int (iz (od)), .int (iz (dn)), .int (iz (pu)), .int (iz (lo2)), .int (iz (sp2)), .int (iz (lv2)), .int (iz (wa)), .ref mt, .ref cn])), (nw, .inl (T 0, 115, .inl (zA (mz (lk_zAt 34 99 Z a b))))), (pa, .inl (T 0, 690, .inl (zA (if my_r Z 2 a b = 0 then rc_F F0_ kp (mz Z) else F0_))))] H := by rw [← hZ]; exact hP
  have hD : va_D A [(mm, .inr (7, [.ref nw, .ref pa, .int (iz (if my_r Z 2 a b = 0 then rc_n kp else kp)), .ref zl, .ref hd, .ref pd, .int (iz (pn)), .int (iz (at0)), .ref os, .int (iz (od)), .int (iz (dn)), .int (iz (pu)), .int (iz (lo2)), .int (iz (sp2)), .int (iz (lv2)), .int (iz (wa)), .ref mt, .ref cn])), (nw, .inl (T 0, 115, .inl (zA (mz (lk_zAt 34 99 Z a b))))), (pa, .inl (T 0, 690, .inl (zA (if my_r Z 2 a b = 0 then rc_F F0_ kp (mz Z) else F0_))))] := by rw [← hZ]; exact hD
  exact W.iret hx hb hr (fun t ht hW => ⟨⟨_, (), rfl, (congrArg iz (my_inflow Z a b).1.symm), by show va_P _ _ _ t.heap; rw [ht]; exact hP⟩, hS.F ht⟩) hS.2.2 dX7_inflow_7
set_option maxHeartbeats 4000000 in
set_option maxRecDepth 100000 in
theorem c_X7_plan (l : Launch) (D : va_G) (T : Nat → ClassId) (sz : Nat) (mm : Nat) (nw : Nat) (pa : Nat) (kp : Int) (zl : Nat) (hd : Nat) (pd : Nat) (pn : Int) (at0 : Int) (os : Nat) (od : Int) (dn : Int) (pu : Int) (lo2 : Int) (sp2 : Int) (lv2 : Int) (wa : Int) (mt : Nat) (cn : Nat) (Z : Nat → Int) (a : Int) (b : Int) (hia : -2147483648 ≤ a ∧ a < 2147483648) (hib : -2147483648 ≤ b ∧ b < 2147483648) (F0_ : Nat → Int) (hkp : 0 ≤ kp ∧ kp ≤ 6) (hV : VL Z) : Met l yX7_plan wsX7_plan ({ frames := 3, cells := 0, slots := 0, locals := 66 }) (kPc D T [.ref mm, .int (iz (a)), .int (iz (b))] (kW D sz [(mm, .inr (7, [.ref nw, .ref pa, .int (iz (kp)), .ref zl, .ref hd, .ref pd, .int (iz (pn)), .int (iz (at0)), .ref os, .int (iz (od)), .int (iz (dn)), .int (iz (pu)), .int (iz (lo2)), .int (iz (sp2)), .int (iz (lv2)), .int (iz (wa)), .ref mt, .ref cn])), (nw, .inl (T 0, 115, .inl (zA (mz Z)))), (pa, .inl (T 0, 690, .inl (zA F0_)))])) (va_Qi (fun (r : Int32) (u : Unit) => r = iz (lk_rPlan Z a b)) (fun (u : Unit) (t : State) => va_P D vwCl [(mm, .inr (7, [.ref nw, .ref pa, .int (iz (if my_r Z 3 a b = 0 then rc_n kp else kp)), .ref zl, .ref hd, .ref pd, .int (iz (pn)), .int (iz (at0)), .ref os, .int (iz (od)), .int (iz (dn)), .int (iz (pu)), .int (iz (lo2)), .int (iz (sp2)), .int (iz (lv2)), .int (iz (wa)), .ref mt, .ref cn])), (nw, .inl (T 0, 115, .inl (zA (mz (lk_zPlan Z a b))))), (pa, .inl (T 0, 690, .inl (zA (if my_r Z 3 a b = 0 then rc_F F0_ kp (mz Z) else F0_))))] t.heap) (va_A [(mm, .inr (7, [.ref nw, .ref pa, .int (iz (kp)), .ref zl, .ref hd, .ref pd, .int (iz (pn)), .int (iz (at0)), .ref os, .int (iz (od)), .int (iz (dn)), .int (iz (pu)), .int (iz (lo2)), .int (iz (sp2)), .int (iz (lv2)), .int (iz (wa)), .ref mt, .ref cn])), (nw, .inl (T 0, 115, .inl (zA (mz Z)))), (pa, .inl (T 0, 690, .inl (zA F0_)))] sz)) 0 0 (va_A [(mm, .inr (7, [.ref nw, .ref pa, .int (iz (kp)), .ref zl, .ref hd, .ref pd, .int (iz (pn)), .int (iz (at0)), .ref os, .int (iz (od)), .int (iz (dn)), .int (iz (pu)), .int (iz (lo2)), .int (iz (sp2)), .int (iz (lv2)), .int (iz (wa)), .ref mt, .ref cn])), (nw, .inl (T 0, 115, .inl (zA (mz Z)))), (pa, .inl (T 0, 690, .inl (zA F0_)))] sz) := by
  refine Met.ofW (cc := cX7_plan) (maxL := 4) (ret := (some .int)) (by decide) rfl ?_
  intro p e s m args below meth c s₁ B hml hv
  obtain ⟨rfl, hK, hsz, hP, hD0⟩ := hv
  have hx := B.exec
  have hb := B.bytes
  have hr := B.returns
  have hts := atoms_spec (ws := wsX7_plan) B.pre
  have hown : s.vm.findClass RX7 = some m.cls := findClass_of_methodNamed B.named
  have hlocks := B.notSynchronized
  subst hsz
  have hD := hD0.self (sz := s.heap.size)
  generalize hAe : va_A [(mm, .inr (7, [.ref nw, .ref pa, .int (iz (kp)), .ref zl, .ref hd, .ref pd, .int (iz (pn)), .int (iz (at0)), .ref os, .int (iz (od)), .int (iz (dn)), .int (iz (pu)), .int (iz (lo2)), .int (iz (sp2)), .int (iz (lv2)), .int (iz (wa)), .ref mt, .ref cn])), (nw, .inl (T 0, 115, .inl (zA (mz Z)))), (pa, .inl (T 0, 690, .inl (zA F0_)))] s.heap.size = A at hD ⊢
  have hA : ∀ q : Nat, s.heap.size ≤ q → A q := fun q h => by rw [← hAe]; exact Or.inr h
  have hS : va_S A s.heap s.heap [] := va_S.rf
  have hP : va_P D vwCl [(mm, .inr (7, [.ref nw, .ref pa, .int (iz (kp)), .ref zl, .ref hd, .ref pd, .int (iz (pn)), .int (iz (at0)), .ref os, .int (iz (od)), .int (iz (dn)), .int (iz (pu)), .int (iz (lo2)), .int (iz (sp2)), .int (iz (lv2)), .int (iz (wa)), .ref mt, .ref cn])), (nw, .inl (T 0, 115, .inl (zA (mz Z)))), (pa, .inl (T 0, 690, .inl (zA F0_)))] s.heap := hP
  have hl := lv_entry ([.ref mm, .int (iz (a)), .int (iz (b))]) (n := 4) (Nat.le_of_ble_eq_true rfl)
  rw [lg_entry_eq]
  generalize (lg_sl ([.ref mm, .int (iz (a)), .int (iz (b))]) ++ List.replicate (4 - (lg_sl ([.ref mm, .int (iz (a)), .int (iz (b))])).length) Slot.unset).toArray = ls at hl ⊢
  have hl : lv_has ls 4 [(0, .ref mm), (1, .int (iz (a))), (2, .int (iz (b)))] := hl
  have hs := hV.1
  unfold VS at hs
  have hmr := my_r_rng Z 3 a b
  have hmy := my_plan Z (w := 3) (by omega) a b
  refine lv_aload_n hx hb dX7_plan_0 rfl (lv_at hl 0 rfl) ?_
  refine lv_iconst (v := iz (3)) hx hb dX7_plan_1 (by decide) ?_
  refine lv_iload_n hx hb dX7_plan_2 rfl (lv_at hl 1 rfl) ?_
  refine lv_iload_n hx hb dX7_plan_3 rfl (lv_at hl 2 rfl) ?_
  refine kc_i (va_runV (As := [.int (iz (3)), .int (iz (a)), .int (iz (b))]) (rest := []) ⟨hx, hb, hml, hown, hts⟩ (c_X7_may l D T mm nw pa kp zl hd pd pn at0 os od dn pu lo2 sp2 lv2 wa mt cn Z 3 a b (by omega) (by omega) (by omega) hV) (cwV 3 hts gX7_plan_X7_may rfl rfl rfl (by decide +kernel) ⟨Nat.le_of_ble_eq_true rfl, Nat.le_of_ble_eq_true rfl⟩) (kPc.v hK (va_recv hK.1 hP (ci := 7) (q0 := 0) rfl rfl) (kcut hP [0, 1] rfl)) rfl rfl hl.1 rfl (lv_room (Nat.le_of_ble_eq_true rfl)) dX7_plan_4 ⟨Nat.zero_le _, Nat.zero_le _⟩) (fun r1 hr1 => ?_)
  subst hr1
  refine lv_istore_n (lv' := [(3, .int (iz (my_r Z 3 a b))), (0, .ref mm), (1, .int (iz (a))), (2, .int (iz (b)))]) hx hb dX7_plan_7 rfl hl (by decide) rfl (fun ls hl => ?_)
  refine lv_iload_n hx hb dX7_plan_8 rfl (lv_at hl 0 rfl) ?_
  refine kz_if_eq (tgt := 14) hx hb dX7_plan_9 (by decide) (by omega) (fun c9 => ?_) (fun c9 => ?_)
  · have hin : 0 ≤ a ∧ a < 24 := by unfold my_r at c9; split at c9 <;> first | assumption | omega
    have hpl := (hV.2.1 a.toNat (by omega)).2.2
    refine lv_aload_n hx hb dX7_plan_14 rfl (lv_at hl 1 rfl) ?_
    refine kc_wv (va_runV (As := []) (rest := []) ⟨hx, hb, hml, hown, hts⟩ (c_X7_records l D T s.heap.size mm nw pa kp zl hd pd pn at0 os od dn pu lo2 sp2 lv2 wa mt cn Z F0_ (by omega)) (cwV 0 hts gX7_plan_X7_records rfl rfl rfl (by decide +kernel) ⟨Nat.le_of_ble_eq_true rfl, Nat.le_of_ble_eq_true rfl⟩) (kPc.v hK (va_recv hK.1 hP (ci := 7) (q0 := 0) rfl rfl) (kW.cut hP hD [0, 1, 2] rfl (by rfl))) rfl rfl hl.1 rfl (lv_room (Nat.le_of_ble_eq_true rfl)) dX7_plan_15 ⟨Nat.zero_le _, Nat.zero_le _⟩) hP hD hS hA [0, 1, 2] rfl (fun _ => rfl) (fun u H locs hr2 hP hD hS => ?_)
    have hP : va_P D vwCl [(mm, .inr (7, [.ref nw, .ref pa, .int (iz (rc_n kp)), .ref zl, .ref hd, .ref pd, .int (iz (pn)), .int (iz (at0)), .ref os, .int (iz (od)), .int (iz (dn)), .int (iz (pu)), .int (iz (lo2)), .int (iz (sp2)), .int (iz (lv2)), .int (iz (wa)), .ref mt, .ref cn])), (nw, .inl (T 0, 115, .inl (zA (mz Z)))), (pa, .inl (T 0, 690, .inl (zA (rc_F F0_ kp (mz Z)))))] H := hP
    have hD : va_D A [(mm, .inr (7, [.ref nw, .ref pa, .int (iz (rc_n kp)), .ref zl, .ref hd, .ref pd, .int (iz (pn)), .int (iz (at0)), .ref os, .int (iz (od)), .int (iz (dn)), .int (iz (pu)), .int (iz (lo2)), .int (iz (sp2)), .int (iz (lv2)), .int (iz (wa)), .ref mt, .ref cn])), (nw, .inl (T 0, 115, .inl (zA (mz Z)))), (pa, .inl (T 0, 690, .inl (zA (rc_F F0_ kp (mz Z)))))] := hD
    refine lv_aload_n hx hb dX7_plan_18 rfl (lv_at hl 1 rfl) ?_
    refine lv_bipush (v := iz (58)) hx hb dX7_plan_19 (by decide) ?_
    refine lv_iload_n hx hb dX7_plan_21 rfl (lv_at hl 2 rfl) ?_
    refine kz_add hx hb dX7_plan_22 ?_
    refine kz_top (y := ((58 + a.toNat : Nat) : Int)) (by omega) ?_
    refine lv_iload_n hx hb dX7_plan_23 rfl (lv_at hl 3 rfl) ?_
    refine kc_wi (va_runV (As := [.int (iz (((58 + a.toNat : Nat) : Int))), .int (iz (b))]) (rest := []) ⟨hx, hb, hml, hown, hts⟩ (c_X7_changes l D T H.size mm nw pa (rc_n kp) zl hd pd pn at0 os od dn pu lo2 sp2 lv2 wa mt cn Z (58 + a.toNat) (by omega) b) (cwV 2 hts gX7_plan_X7_changes rfl rfl rfl (by decide +kernel) ⟨Nat.le_of_ble_eq_true rfl, Nat.le_of_ble_eq_true rfl⟩) (kPc.v hK (va_recv hK.1 hP (ci := 7) (q0 := 0) rfl rfl) (kW.cut hP hD [0, 1] rfl (by rfl))) rfl rfl hl.1 rfl (lv_room (Nat.le_of_ble_eq_true rfl)) dX7_plan_24 ⟨Nat.zero_le _, Nat.zero_le _⟩) hP hD hS hA [0, 1] rfl (fun _ => rfl) (fun r3 u H locs hr3 hP hD hS => ?_)
    have hP : va_P D vwCl [(mm, .inr (7, [.ref nw, .ref pa, .int (iz ((rc_n kp))), .ref zl, .ref hd, .ref pd, .int (iz (pn)), .int (iz (at0)), .ref os, .int (iz (od)), .int (iz (dn)), .int (iz (pu)), .int (iz (lo2)), .int (iz (sp2)), .int (iz (lv2)), .int (iz (wa)), .ref mt, .ref cn])), (nw, .inl (T 0, 115, .inl (zA (mz (zup Z (58 + a.toNat) b))))), (pa, .inl (T 0, 690, .inl (zA (rc_F F0_ kp (mz Z)))))] H := hP
    have hD : va_D A [(mm, .inr (7, [.ref nw, .ref pa, .int (iz ((rc_n kp))), .ref zl, .ref hd, .ref pd, .int (iz (pn)), .int (iz (at0)), .ref os, .int (iz (od)), .int (iz (dn)), .int (iz (pu)), .int (iz (lo2)), .int (iz (sp2)), .int (iz (lv2)), .int (iz (wa)), .ref mt, .ref cn])), (nw, .inl (T 0, 115, .inl (zA (mz (zup Z (58 + a.toNat) b))))), (pa, .inl (T 0, 690, .inl (zA (rc_F F0_ kp (mz Z)))))] := hD
    subst hr3
    refine lv_bipush (v := iz (100)) hx hb dX7_plan_27 (by decide) ?_
    refine kz_add hx hb dX7_plan_29 ?_
    have hZ : ((rc_n kp) : Int) = if my_r Z 3 a b = 0 then rc_n kp else kp := (by rw [if_pos c9])
    have hP : va_P D vwCl [(mm, .inr (7, [.ref nw, .ref pa, .int (iz (if my_r Z 3 a b = 0 then rc_n kp else kp)), .ref zl, .ref hd, .ref pd, .int (iz (pn)), .int (iz (at0)), .ref os, .int (iz (od)), .int (iz (dn)), .int (iz (pu)), .int (iz (lo2)), .int (iz (sp2)), .int (iz (lv2)), .int (iz (wa)), .ref mt, .ref cn])), (nw, .inl (T 0, 115, .inl (zA (mz (zup Z (58 + a.toNat) b))))), (pa, .inl (T 0, 690, .inl (zA (rc_F F0_ kp (mz Z)))))] H := by rw [← hZ]; exact hP
    have hD : va_D A [(mm, .inr (7, [.ref nw, .ref pa, .int (iz (if my_r Z 3 a b = 0 then rc_n kp else kp)), .ref zl, .ref hd, .ref pd, .int (iz (pn)), .int (iz (at0)), .ref os, .int (iz (od)), .int (iz (dn)), .int (iz (pu)), .int (iz (lo2)), .int (iz (sp2)), .int (iz (lv2)), .int (iz (wa)), .ref mt, .ref cn])), (nw, .inl (T 0, 115, .inl (zA (mz (zup Z (58 + a.toNat) b))))), (pa, .inl (T 0, 690, .inl (zA (rc_F F0_ kp (mz Z)))))] := by rw [← hZ]; exact hD
    have hZ : (mz (zup Z (58 + a.toNat) b) : Nat → Int) = mz (lk_zPlan Z a b) := (by rw [hmy.2]; unfold my_z; rw [if_pos c9]; rfl)
    have hP : va_P D vwCl [(mm, .inr (7, [.ref nw, .ref pa, .int (iz (if my_r Z 3 a b = 0 then rc_n kp else kp)), .ref zl, .ref hd, .ref pd, .int (iz (pn)), .int (iz (at0)), .ref os, .int (iz (od)), .int (iz (dn)), .int (iz (pu)), .int (iz (lo2)), .int (iz (sp2)), .int (iz (lv2)), .int (iz (wa)), .ref mt, .ref cn])), (nw, .inl (T 0, 115, .inl (zA (mz (lk_zPlan Z a b))))), (pa, .inl (T 0, 690, .inl (zA (rc_F F0_ kp (mz Z)))))] H := by rw [← hZ]; exact hP
    have hD : va_D A [(mm, .inr (7, [.ref nw, .ref pa, .int (iz (if my_r Z 3 a b = 0 then rc_n kp else kp)), .ref zl, .ref hd, .ref pd, .int (iz (pn)), .int (iz (at0)), .ref os, .int (iz (od)), .int (iz (dn)), .int (iz (pu)), .int (iz (lo2)), .int (iz (sp2)), .int (iz (lv2)), .int (iz (wa)), .ref mt, .ref cn])), (nw, .inl (T 0, 115, .inl (zA (mz (lk_zPlan Z a b))))), (pa, .inl (T 0, 690, .inl (zA (rc_F F0_ kp (mz Z)))))] := by rw [← hZ]; exact hD
    have hZ : (rc_F F0_ kp (mz Z) : Nat → Int) = if my_r Z 3 a b = 0 then rc_F F0_ kp (mz Z) else F0_ := (by rw [if_pos c9])
    have hP : va_P D vwCl [(mm, .inr (7, [.ref nw, .ref pa, .int (iz (if my_r Z 3 a b = 0 then rc_n kp else kp)), .ref zl, .ref hd, .ref pd, .int (iz (pn)), .int (iz (at0)), .ref os, .int (iz (od)), .int (iz (dn)), .int (iz (pu)), .int (iz (lo2)), .int (iz (sp2)), .int (iz (lv2)), .int (iz (wa)), .ref mt, .ref cn])), (nw, .inl (T 0, 115, .inl (zA (mz (lk_zPlan Z a b))))), (pa, .inl (T 0, 690, .inl (zA (if my_r Z 3 a b = 0 then rc_F F0_ kp (mz Z) else F0_))))] H := by rw [← hZ]; exact hP
    have hD : va_D A [(mm, .inr (7, [.ref nw, .ref pa, .int (iz (if my_r Z 3 a b = 0 then rc_n kp else kp)), .ref zl, .ref hd, .ref pd, .int (iz (pn)), .int (iz (at0)), .ref os, .int (iz (od)), .int (iz (dn)), .int (iz (pu)), .int (iz (lo2)), .int (iz (sp2)), .int (iz (lv2)), .int (iz (wa)), .ref mt, .ref cn])), (nw, .inl (T 0, 115, .inl (zA (mz (lk_zPlan Z a b))))), (pa, .inl (T 0, 690, .inl (zA (if my_r Z 3 a b = 0 then rc_F F0_ kp (mz Z) else F0_))))] := by rw [← hZ]; exact hD
    exact W.iret hx hb hr (fun t ht hW => ⟨⟨_, (), rfl, (congrArg iz (by rw [hmy.1, if_pos c9])), by show va_P _ _ _ t.heap; rw [ht]; exact hP⟩, hS.F ht⟩) hS.2.2 dX7_plan_30
  · refine lv_iload_n hx hb dX7_plan_12 rfl (lv_at hl 0 rfl) ?_
    have hZ : (kp : Int) = if my_r Z 3 a b = 0 then rc_n kp else kp := (by rw [if_neg c9])
    have hP : va_P D vwCl [(mm, .inr (7, [.ref nw, .ref pa, .int (iz (if my_r Z 3 a b = 0 then rc_n kp else kp)), .ref zl, .ref hd, .ref pd, .int (iz (pn)), .int (iz (at0)), .ref os, .int (iz (od)), .int (iz (dn)), .int (iz (pu)), .int (iz (lo2)), .int (iz (sp2)), .int (iz (lv2)), .int (iz (wa)), .ref mt, .ref cn])), (nw, .inl (T 0, 115, .inl (zA (mz Z)))), (pa, .inl (T 0, 690, .inl (zA F0_)))] s.heap := by rw [← hZ]; exact hP
    have hD : va_D A [(mm, .inr (7, [.ref nw, .ref pa, .int (iz (if my_r Z 3 a b = 0 then rc_n kp else kp)), .ref zl, .ref hd, .ref pd, .int (iz (pn)), .int (iz (at0)), .ref os, .int (iz (od)), .int (iz (dn)), .int (iz (pu)), .int (iz (lo2)), .int (iz (sp2)), .int (iz (lv2)), .int (iz (wa)), .ref mt, .ref cn])), (nw, .inl (T 0, 115, .inl (zA (mz Z)))), (pa, .inl (T 0, 690, .inl (zA F0_)))] := by rw [← hZ]; exact hD
    have hZ : (mz Z : Nat → Int) = mz (lk_zPlan Z a b) := (by rw [hmy.2]; unfold my_z; rw [if_neg c9])
    have hP : va_P D vwCl [(mm, .inr (7, [.ref nw, .ref pa, .int (iz (if my_r Z 3 a b = 0 then rc_n kp else kp)), .ref zl, .ref hd, .ref pd, .int (iz (pn)), .int (iz (at0)), .ref os, .int (iz (od)), .int (iz (dn)), .int (iz (pu)), .int (iz (lo2)), .int (iz (sp2)), .int (iz (lv2)), .int (iz (wa)), .ref mt, .ref cn])), (nw, .inl (T 0, 115, .inl (zA (mz (lk_zPlan Z a b))))), (pa, .inl (T 0, 690, .inl (zA F0_)))] s.heap := by rw [← hZ]; exact hP
    have hD : va_D A [(mm, .inr (7, [.ref nw, .ref pa, .int (iz (if my_r Z 3 a b = 0 then rc_n kp else kp)), .ref zl, .ref hd, .ref pd, .int (iz (pn)), .int (iz (at0)), .ref os, .int (iz (od)), .int (iz (dn)), .int (iz (pu)), .int (iz (lo2)), .int (iz (sp2)), .int (iz (lv2)), .int (iz (wa)), .ref mt, .ref cn])), (nw, .inl (T 0, 115, .inl (zA (mz (lk_zPlan Z a b))))), (pa, .inl (T 0, 690, .inl (zA F0_)))] := by rw [← hZ]; exact hD
    have hZ : (F0_ : Nat → Int) = if my_r Z 3 a b = 0 then rc_F F0_ kp (mz Z) else F0_ := (by rw [if_neg c9])
    have hP : va_P D vwCl [(mm, .inr (7, [.ref nw, .ref pa, .int (iz (if my_r Z 3 a b = 0 then rc_n kp else kp)), .ref zl, .ref hd, .ref pd, .int (iz (pn)), .int (iz (at0)), .ref os, .int (iz (od)), .int (iz (dn)), .int (iz (pu)), .int (iz (lo2)), .int (iz (sp2)), .int (iz (lv2)), .int (iz (wa)), .ref mt, .ref cn])), (nw, .inl (T 0, 115, .inl (zA (mz (lk_zPlan Z a b))))), (pa, .inl (T 0, 690, .inl (zA (if my_r Z 3 a b = 0 then rc_F F0_ kp (mz Z) else F0_))))] s.heap := by rw [← hZ]; exact hP
    have hD : va_D A [(mm, .inr (7, [.ref nw, .ref pa, .int (iz (if my_r Z 3 a b = 0 then rc_n kp else kp)), .ref zl, .ref hd, .ref pd, .int (iz (pn)), .int (iz (at0)), .ref os, .int (iz (od)), .int (iz (dn)), .int (iz (pu)), .int (iz (lo2)), .int (iz (sp2)), .int (iz (lv2)), .int (iz (wa)), .ref mt, .ref cn])), (nw, .inl (T 0, 115, .inl (zA (mz (lk_zPlan Z a b))))), (pa, .inl (T 0, 690, .inl (zA (if my_r Z 3 a b = 0 then rc_F F0_ kp (mz Z) else F0_))))] := by rw [← hZ]; exact hD
    exact W.iret hx hb hr (fun t ht hW => ⟨⟨_, (), rfl, (congrArg iz (by rw [hmy.1, if_neg c9])), by show va_P _ _ _ t.heap; rw [ht]; exact hP⟩, hS.F ht⟩) hS.2.2 dX7_plan_13
set_option maxHeartbeats 4000000 in
set_option maxRecDepth 100000 in
theorem c_X7_mayContract (l : Launch) (D : va_G) (T : Nat → ClassId) (mm : Nat) (nw : Nat) (pa : Nat) (kp : Int) (zl : Nat) (hd : Nat) (pd : Nat) (pn : Int) (at0 : Int) (os : Nat) (od : Int) (dn : Int) (pu : Int) (lo2 : Int) (sp2 : Int) (lv2 : Int) (wa : Int) (mt : Nat) (cn : Nat) (Z : Nat → Int) (a : Int) (b : Int) (c2 : Int) (d2 : Int) (hia : -2147483648 ≤ a ∧ a < 2147483648) (hib : -2147483648 ≤ b ∧ b < 2147483648) (hic2 : -2147483648 ≤ c2 ∧ c2 < 2147483648) (hid2 : -2147483648 ≤ d2 ∧ d2 < 2147483648) (hV : VL Z) : Met l yX7_mayContract wsX7_mayContract ({ frames := 2, cells := 0, slots := 0, locals := 42 }) (kPc D T [.ref mm, .int (iz (a)), .int (iz (b)), .int (iz (c2)), .int (iz (d2))] (va_P D vwCl [(mm, .inr (7, [.ref nw, .ref pa, .int (iz (kp)), .ref zl, .ref hd, .ref pd, .int (iz (pn)), .int (iz (at0)), .ref os, .int (iz (od)), .int (iz (dn)), .int (iz (pu)), .int (iz (lo2)), .int (iz (sp2)), .int (iz (lv2)), .int (iz (wa)), .ref mt, .ref cn])), (nw, .inl (T 0, 115, .inl (zA (mz Z))))])) (vp_Si (fun r : Int32 => r = iz (mc_r Z a b c2 d2))) 0 0 (fun _ => False) := by
  refine Met.ofW (cc := cX7_mayContract) (maxL := 5) (ret := (some .int)) (by decide) rfl ?_
  intro p e s m args below meth c s₁ B hml hv
  obtain ⟨rfl, hK, hP⟩ := hv
  have hx := B.exec
  have hb := B.bytes
  have hr := B.returns
  have hts := atoms_spec (ws := wsX7_mayContract) B.pre
  have hown : s.vm.findClass RX7 = some m.cls := findClass_of_methodNamed B.named
  have hlocks := B.notSynchronized
  have w0 := hts (.fieldLink RX7 7 "LakePlantModel" "now" "[I") (List.mem_of_getElem? (i := 1) rfl)
  have w1 : ∀ w ∈ wsX70, w ∈ wsX7_mayContract := by decide +kernel
  have hP : va_P D vwCl [(mm, .inr (7, [.ref nw, .ref pa, .int (iz (kp)), .ref zl, .ref hd, .ref pd, .int (iz (pn)), .int (iz (at0)), .ref os, .int (iz (od)), .int (iz (dn)), .int (iz (pu)), .int (iz (lo2)), .int (iz (sp2)), .int (iz (lv2)), .int (iz (wa)), .ref mt, .ref cn])), (nw, .inl (T 0, 115, .inl (zA (mz Z))))] s.heap := hP
  have hl := lv_entry ([.ref mm, .int (iz (a)), .int (iz (b)), .int (iz (c2)), .int (iz (d2))]) (n := 5) (Nat.le_of_ble_eq_true rfl)
  rw [lg_entry_eq]
  generalize (lg_sl ([.ref mm, .int (iz (a)), .int (iz (b)), .int (iz (c2)), .int (iz (d2))]) ++ List.replicate (5 - (lg_sl ([.ref mm, .int (iz (a)), .int (iz (b)), .int (iz (c2)), .int (iz (d2))])).length) Slot.unset).toArray = ls at hl ⊢
  have hl : lv_has ls 5 [(0, .ref mm), (1, .int (iz (a))), (2, .int (iz (b))), (3, .int (iz (c2))), (4, .int (iz (d2)))] := hl
  have hs := hV.1
  unfold VS at hs
  refine lv_iload_n hx hb dX7_mayContract_0 rfl (lv_at hl 1 rfl) ?_
  refine kc_i (va_runS (As := [.int (iz (a))]) (rest := []) ⟨hx, hb, hml, hown, hts⟩ (c_X7_isHour l D T a (by omega)) (va_cwS 1 hts gX7_mayContract_X7_isHour rfl rfl rfl (by decide +kernel) ⟨Nat.le_of_ble_eq_true rfl, Nat.le_of_ble_eq_true rfl⟩) (kPc.s hK (kcut hP [] rfl)) rfl rfl hl.1 rfl (lv_room (Nat.le_of_ble_eq_true rfl)) dX7_mayContract_1 ⟨Nat.zero_le _, Nat.zero_le _⟩) (fun r1 hr1 => ?_)
  subst hr1
  refine kz_if_ne (tgt := 9) hx hb dX7_mayContract_4 (by decide) (by omega) (fun c4 => ?_) (fun c4 => ?_)
  · have hin : 0 ≤ a ∧ a < 24 := by split at c4 <;> omega
    refine lv_iload_n hx hb dX7_mayContract_9 rfl (lv_at hl 2 rfl) ?_
    refine lv_iconst (v := iz (1)) hx hb dX7_mayContract_10 (by decide) ?_
    refine lv_bipush (v := iz (30)) hx hb dX7_mayContract_11 (by decide) ?_
    refine kc_i (va_runS (As := [.int (iz (b)), .int (iz (1)), .int (iz (30))]) (rest := []) ⟨hx, hb, hml, hown, hts⟩ (c_X7_in l D T b 1 30 (by omega) (by omega) (by omega)) (va_cwS 3 hts gX7_mayContract_X7_in rfl rfl rfl (by decide +kernel) ⟨Nat.le_of_ble_eq_true rfl, Nat.le_of_ble_eq_true rfl⟩) (kPc.s hK (kcut hP [] rfl)) rfl rfl hl.1 rfl (lv_room (Nat.le_of_ble_eq_true rfl)) dX7_mayContract_13 ⟨Nat.zero_le _, Nat.zero_le _⟩) (fun r2 hr2 => ?_)
    subst hr2
    refine kz_if_eq (tgt := 42) hx hb dX7_mayContract_16 (by decide) (by omega) (fun c16 => ?_) (fun c16 => ?_)
    · have k1 : ¬ (1 ≤ b ∧ b ≤ 30) := by split at c16 <;> omega
      have kn : ¬ ((1 ≤ b ∧ b ≤ 30) ∧ (0 ≤ c2 ∧ c2 ≤ 9999) ∧ (0 ≤ d2 ∧ d2 ≤ 9999)) := fun q => k1 q.1
      refine lv_bipush (v := iz (-2)) hx hb dX7_mayContract_42 (by decide) ?_
      exact W.iret hx hb hr (fun t ht _ => ⟨_, rfl, (congrArg iz (by unfold mc_r; rw [if_pos hin, if_neg kn])), ht⟩) (fun _ h => absurd h List.not_mem_nil) dX7_mayContract_44
    · have k1 : 1 ≤ b ∧ b ≤ 30 := by split at c16 <;> omega
      refine lv_iload_n hx hb dX7_mayContract_19 rfl (lv_at hl 3 rfl) ?_
      refine lv_iconst (v := iz (0)) hx hb dX7_mayContract_20 (by decide) ?_
      refine lv_sipush (v := iz (9999)) hx hb dX7_mayContract_21 (by decide) ?_
      refine kc_i (va_runS (As := [.int (iz (c2)), .int (iz (0)), .int (iz (9999))]) (rest := []) ⟨hx, hb, hml, hown, hts⟩ (c_X7_in l D T c2 0 9999 (by omega) (by omega) (by omega)) (va_cwS 3 hts gX7_mayContract_X7_in rfl rfl rfl (by decide +kernel) ⟨Nat.le_of_ble_eq_true rfl, Nat.le_of_ble_eq_true rfl⟩) (kPc.s hK (kcut hP [] rfl)) rfl rfl hl.1 rfl (lv_room (Nat.le_of_ble_eq_true rfl)) dX7_mayContract_24 ⟨Nat.zero_le _, Nat.zero_le _⟩) (fun r3 hr3 => ?_)
      subst hr3
      refine kz_if_eq (tgt := 42) hx hb dX7_mayContract_27 (by decide) (by omega) (fun c27 => ?_) (fun c27 => ?_)
      · have k2 : ¬ (0 ≤ c2 ∧ c2 ≤ 9999) := by split at c27 <;> omega
        have kn : ¬ ((1 ≤ b ∧ b ≤ 30) ∧ (0 ≤ c2 ∧ c2 ≤ 9999) ∧ (0 ≤ d2 ∧ d2 ≤ 9999)) := fun q => k2 q.2.1
        refine lv_bipush (v := iz (-2)) hx hb dX7_mayContract_42 (by decide) ?_
        exact W.iret hx hb hr (fun t ht _ => ⟨_, rfl, (congrArg iz (by unfold mc_r; rw [if_pos hin, if_neg kn])), ht⟩) (fun _ h => absurd h List.not_mem_nil) dX7_mayContract_44
      · have k2 : 0 ≤ c2 ∧ c2 ≤ 9999 := by split at c27 <;> omega
        refine lv_iload hx hb dX7_mayContract_30 (lv_at hl 4 rfl) ?_
        refine lv_iconst (v := iz (0)) hx hb dX7_mayContract_32 (by decide) ?_
        refine lv_sipush (v := iz (9999)) hx hb dX7_mayContract_33 (by decide) ?_
        refine kc_i (va_runS (As := [.int (iz (d2)), .int (iz (0)), .int (iz (9999))]) (rest := []) ⟨hx, hb, hml, hown, hts⟩ (c_X7_in l D T d2 0 9999 (by omega) (by omega) (by omega)) (va_cwS 3 hts gX7_mayContract_X7_in rfl rfl rfl (by decide +kernel) ⟨Nat.le_of_ble_eq_true rfl, Nat.le_of_ble_eq_true rfl⟩) (kPc.s hK (kcut hP [] rfl)) rfl rfl hl.1 rfl (lv_room (Nat.le_of_ble_eq_true rfl)) dX7_mayContract_36 ⟨Nat.zero_le _, Nat.zero_le _⟩) (fun r4 hr4 => ?_)
        subst hr4
        refine kz_if_ne (tgt := 45) hx hb dX7_mayContract_39 (by decide) (by omega) (fun c39 => ?_) (fun c39 => ?_)
        · have k3 : 0 ≤ d2 ∧ d2 ≤ 9999 := by split at c39 <;> omega
          refine lv_aload_n hx hb dX7_mayContract_45 rfl (lv_at hl 0 rfl) ?_
          refine va_get (D := D) (ci := 7) (C := RX7) (T := TX7) (N := 18) hx hb hts w1 hown hK.1 hP 0 rfl rfl 0 (by decide) w0 (fun _ h9 => h9) rfl dX7_mayContract_46 ?_
          refine lv_bipush (v := iz (82)) hx hb dX7_mayContract_49 (by decide) ?_
          refine kz_iald hx hb hK hP (1) rfl (82) (by omega) (by omega) (by omega) dX7_mayContract_51 ?_
          refine kz_top (y := Z 114) (mz_82 _) ?_
          refine lv_bipush (v := iz (8)) hx hb dX7_mayContract_52 (by decide) ?_
          refine kz_icmp_ne (tgt := 62) hx hb dX7_mayContract_54 (by decide) (by omega) (by omega) (fun c54 => ?_) (fun c54 => ?_)
          · refine lv_iconst (v := iz (0)) hx hb dX7_mayContract_62 (by decide) ?_
            exact W.iret hx hb hr (fun t ht _ => ⟨_, rfl, (congrArg iz (by unfold mc_r; rw [if_pos hin, if_pos ⟨k1, k2, k3⟩, if_pos (by omega)])), ht⟩) (fun _ h => absurd h List.not_mem_nil) dX7_mayContract_63
          · refine lv_bipush (v := iz (-4)) hx hb dX7_mayContract_57 (by decide) ?_
            refine lv_goto (tgt := 63) hx hb dX7_mayContract_59 (by decide) ?_
            exact W.iret hx hb hr (fun t ht _ => ⟨_, rfl, (congrArg iz (by unfold mc_r; rw [if_pos hin, if_pos ⟨k1, k2, k3⟩, if_neg (by omega)])), ht⟩) (fun _ h => absurd h List.not_mem_nil) dX7_mayContract_63
        · have k3 : ¬ (0 ≤ d2 ∧ d2 ≤ 9999) := by split at c39 <;> omega
          have kn : ¬ ((1 ≤ b ∧ b ≤ 30) ∧ (0 ≤ c2 ∧ c2 ≤ 9999) ∧ (0 ≤ d2 ∧ d2 ≤ 9999)) := fun q => k3 q.2.2
          refine lv_bipush (v := iz (-2)) hx hb dX7_mayContract_42 (by decide) ?_
          exact W.iret hx hb hr (fun t ht _ => ⟨_, rfl, (congrArg iz (by unfold mc_r; rw [if_pos hin, if_neg kn])), ht⟩) (fun _ h => absurd h List.not_mem_nil) dX7_mayContract_44
  · have hin : ¬ (0 ≤ a ∧ a < 24) := by split at c4 <;> omega
    refine lv_iconst (v := iz (-1)) hx hb dX7_mayContract_7 (by decide) ?_
    exact W.iret hx hb hr (fun t ht _ => ⟨_, rfl, (congrArg iz (by unfold mc_r; rw [if_neg hin])), ht⟩) (fun _ h => absurd h List.not_mem_nil) dX7_mayContract_8
set_option maxHeartbeats 4000000 in
set_option maxRecDepth 100000 in
theorem c_X7_comes (l : Launch) (D : va_G) (T : Nat → ClassId) (sz : Nat) (mm : Nat) (nw : Nat) (pa : Nat) (kp : Int) (zl : Nat) (hd : Nat) (pd : Nat) (pn : Int) (at0 : Int) (os : Nat) (od : Int) (dn : Int) (pu : Int) (lo2 : Int) (sp2 : Int) (lv2 : Int) (wa : Int) (mt : Nat) (cn : Nat) (Z : Nat → Int) (a : Int) (b : Int) (c2 : Int) (d2 : Int) (hV : VL Z) (h8 : Z 114 < 8) : Met l yX7_comes wsX7_comes ({ frames := 0, cells := 0, slots := 0, locals := 0 }) (kPc D T [.ref mm, .int (iz (a)), .int (iz (b)), .int (iz (c2)), .int (iz (d2))] (kW D sz [(mm, .inr (7, [.ref nw, .ref pa, .int (iz (kp)), .ref zl, .ref hd, .ref pd, .int (iz (pn)), .int (iz (at0)), .ref os, .int (iz (od)), .int (iz (dn)), .int (iz (pu)), .int (iz (lo2)), .int (iz (sp2)), .int (iz (lv2)), .int (iz (wa)), .ref mt, .ref cn])), (nw, .inl (T 0, 115, .inl (zA (mz Z))))])) (va_Qi (fun (r : Int32) (u : Unit) => r = iz (Z 114)) (fun (u : Unit) (t : State) => va_P D vwCl [(mm, .inr (7, [.ref nw, .ref pa, .int (iz (kp)), .ref zl, .ref hd, .ref pd, .int (iz (pn)), .int (iz (at0)), .ref os, .int (iz (od)), .int (iz (dn)), .int (iz (pu)), .int (iz (lo2)), .int (iz (sp2)), .int (iz (lv2)), .int (iz (wa)), .ref mt, .ref cn])), (nw, .inl (T 0, 115, .inl (zA (mz (lk_lay Z (Z 114).toNat a b c2 d2)))))] t.heap) (va_A [(mm, .inr (7, [.ref nw, .ref pa, .int (iz (kp)), .ref zl, .ref hd, .ref pd, .int (iz (pn)), .int (iz (at0)), .ref os, .int (iz (od)), .int (iz (dn)), .int (iz (pu)), .int (iz (lo2)), .int (iz (sp2)), .int (iz (lv2)), .int (iz (wa)), .ref mt, .ref cn])), (nw, .inl (T 0, 115, .inl (zA (mz Z))))] sz)) 0 0 (va_A [(mm, .inr (7, [.ref nw, .ref pa, .int (iz (kp)), .ref zl, .ref hd, .ref pd, .int (iz (pn)), .int (iz (at0)), .ref os, .int (iz (od)), .int (iz (dn)), .int (iz (pu)), .int (iz (lo2)), .int (iz (sp2)), .int (iz (lv2)), .int (iz (wa)), .ref mt, .ref cn])), (nw, .inl (T 0, 115, .inl (zA (mz Z))))] sz) := by
  refine Met.ofW (cc := cX7_comes) (maxL := 6) (ret := (some .int)) (by decide) rfl ?_
  intro p e s m args below meth c s₁ B hml hv
  obtain ⟨rfl, hK, hsz, hP, hD0⟩ := hv
  have hx := B.exec
  have hb := B.bytes
  have hr := B.returns
  have hts := atoms_spec (ws := wsX7_comes) B.pre
  have hown : s.vm.findClass RX7 = some m.cls := findClass_of_methodNamed B.named
  have hlocks := B.notSynchronized
  have w0 := hts (.fieldLink RX7 7 "LakePlantModel" "now" "[I") (List.mem_of_getElem? (i := 1) rfl)
  have w1 : ∀ w ∈ wsX70, w ∈ wsX7_comes := by decide +kernel
  subst hsz
  have hD := hD0.self (sz := s.heap.size)
  generalize hAe : va_A [(mm, .inr (7, [.ref nw, .ref pa, .int (iz (kp)), .ref zl, .ref hd, .ref pd, .int (iz (pn)), .int (iz (at0)), .ref os, .int (iz (od)), .int (iz (dn)), .int (iz (pu)), .int (iz (lo2)), .int (iz (sp2)), .int (iz (lv2)), .int (iz (wa)), .ref mt, .ref cn])), (nw, .inl (T 0, 115, .inl (zA (mz Z))))] s.heap.size = A at hD ⊢
  have hA : ∀ q : Nat, s.heap.size ≤ q → A q := fun q h => by rw [← hAe]; exact Or.inr h
  have hS : va_S A s.heap s.heap [] := va_S.rf
  have hP : va_P D vwCl [(mm, .inr (7, [.ref nw, .ref pa, .int (iz (kp)), .ref zl, .ref hd, .ref pd, .int (iz (pn)), .int (iz (at0)), .ref os, .int (iz (od)), .int (iz (dn)), .int (iz (pu)), .int (iz (lo2)), .int (iz (sp2)), .int (iz (lv2)), .int (iz (wa)), .ref mt, .ref cn])), (nw, .inl (T 0, 115, .inl (zA (mz Z))))] s.heap := hP
  have hl := lv_entry ([.ref mm, .int (iz (a)), .int (iz (b)), .int (iz (c2)), .int (iz (d2))]) (n := 6) (Nat.le_of_ble_eq_true rfl)
  rw [lg_entry_eq]
  generalize (lg_sl ([.ref mm, .int (iz (a)), .int (iz (b)), .int (iz (c2)), .int (iz (d2))]) ++ List.replicate (6 - (lg_sl ([.ref mm, .int (iz (a)), .int (iz (b)), .int (iz (c2)), .int (iz (d2))])).length) Slot.unset).toArray = ls at hl ⊢
  have hl : lv_has ls 6 [(0, .ref mm), (1, .int (iz (a))), (2, .int (iz (b))), (3, .int (iz (c2))), (4, .int (iz (d2)))] := hl
  have hs := hV.1
  unfold VS at hs
  refine lv_bipush (v := iz (83)) hx hb dX7_comes_0 (by decide) ?_
  refine lv_iconst (v := iz (4)) hx hb dX7_comes_2 (by decide) ?_
  refine lv_aload_n hx hb dX7_comes_3 rfl (lv_at hl 0 rfl) ?_
  refine va_get (D := D) (ci := 7) (C := RX7) (T := TX7) (N := 18) hx hb hts w1 hown hK.1 hP 0 rfl rfl 0 (by decide) w0 (fun _ h9 => h9) rfl dX7_comes_4 ?_
  refine lv_bipush (v := iz (82)) hx hb dX7_comes_7 (by decide) ?_
  refine kz_iald hx hb hK hP (1) rfl (82) (by omega) (by omega) (by omega) dX7_comes_9 ?_
  refine kz_top (y := Z 114) (mz_82 _) ?_
  refine kz_mul hx hb dX7_comes_10 ?_
  refine kz_add hx hb dX7_comes_11 ?_
  refine lv_istore (lv' := [(5, .int (iz (83 + (4 * (Z 114))))), (0, .ref mm), (1, .int (iz (a))), (2, .int (iz (b))), (3, .int (iz (c2))), (4, .int (iz (d2)))]) hx hb dX7_comes_12 hl (by decide) rfl (fun ls hl => ?_)
  refine lv_aload_n hx hb dX7_comes_14 rfl (lv_at hl 1 rfl) ?_
  refine va_get (D := D) (ci := 7) (C := RX7) (T := TX7) (N := 18) hx hb hts w1 hown hK.1 hP 0 rfl rfl 0 (by decide) w0 (fun _ h9 => h9) rfl dX7_comes_15 ?_
  refine lv_iload hx hb dX7_comes_18 (lv_at hl 0 rfl) ?_
  refine lv_iload_n hx hb dX7_comes_20 rfl (lv_at hl 2 rfl) ?_
  refine kz_iast hx hb hK hP hD hS (1) rfl (83 + 4 * (Z 114).toNat + 0) (by omega) (by omega) (by omega) dX7_comes_21 (fun H locs hP hD hS => ?_)
  have hP : va_P D vwCl [(mm, .inr (7, [.ref nw, .ref pa, .int (iz (kp)), .ref zl, .ref hd, .ref pd, .int (iz (pn)), .int (iz (at0)), .ref os, .int (iz (od)), .int (iz (dn)), .int (iz (pu)), .int (iz (lo2)), .int (iz (sp2)), .int (iz (lv2)), .int (iz (wa)), .ref mt, .ref cn])), (nw, .inl (T 0, 115, .inl (zA (zup (mz Z) (83 + 4 * (Z 114).toNat + 0) a))))] H := hP
  have hD : va_D A [(mm, .inr (7, [.ref nw, .ref pa, .int (iz (kp)), .ref zl, .ref hd, .ref pd, .int (iz (pn)), .int (iz (at0)), .ref os, .int (iz (od)), .int (iz (dn)), .int (iz (pu)), .int (iz (lo2)), .int (iz (sp2)), .int (iz (lv2)), .int (iz (wa)), .ref mt, .ref cn])), (nw, .inl (T 0, 115, .inl (zA (zup (mz Z) (83 + 4 * (Z 114).toNat + 0) a))))] := hD
  have hZ : (zup (mz Z) (83 + 4 * (Z 114).toNat + 0) a : Nat → Int) = mz (zup Z (82 + (Z 114).toNat * 4 + 0) a) := (mz_upR (by omega))
  have hP : va_P D vwCl [(mm, .inr (7, [.ref nw, .ref pa, .int (iz (kp)), .ref zl, .ref hd, .ref pd, .int (iz (pn)), .int (iz (at0)), .ref os, .int (iz (od)), .int (iz (dn)), .int (iz (pu)), .int (iz (lo2)), .int (iz (sp2)), .int (iz (lv2)), .int (iz (wa)), .ref mt, .ref cn])), (nw, .inl (T 0, 115, .inl (zA (mz (zup Z (82 + (Z 114).toNat * 4 + 0) a)))))] H := by rw [← hZ]; exact hP
  have hD : va_D A [(mm, .inr (7, [.ref nw, .ref pa, .int (iz (kp)), .ref zl, .ref hd, .ref pd, .int (iz (pn)), .int (iz (at0)), .ref os, .int (iz (od)), .int (iz (dn)), .int (iz (pu)), .int (iz (lo2)), .int (iz (sp2)), .int (iz (lv2)), .int (iz (wa)), .ref mt, .ref cn])), (nw, .inl (T 0, 115, .inl (zA (mz (zup Z (82 + (Z 114).toNat * 4 + 0) a)))))] := by rw [← hZ]; exact hD
  refine lv_aload_n hx hb dX7_comes_22 rfl (lv_at hl 1 rfl) ?_
  refine va_get (D := D) (ci := 7) (C := RX7) (T := TX7) (N := 18) hx hb hts w1 hown hK.1 hP 0 rfl rfl 0 (by decide) w0 (fun _ h9 => h9) rfl dX7_comes_23 ?_
  refine lv_iload hx hb dX7_comes_26 (lv_at hl 0 rfl) ?_
  refine lv_iconst (v := iz (1)) hx hb dX7_comes_28 (by decide) ?_
  refine kz_add hx hb dX7_comes_29 ?_
  refine lv_iload_n hx hb dX7_comes_30 rfl (lv_at hl 3 rfl) ?_
  refine kz_iast hx hb hK hP hD hS (1) rfl (83 + 4 * (Z 114).toNat + 1) (by omega) (by omega) (by omega) dX7_comes_31 (fun H locs hP hD hS => ?_)
  have hP : va_P D vwCl [(mm, .inr (7, [.ref nw, .ref pa, .int (iz (kp)), .ref zl, .ref hd, .ref pd, .int (iz (pn)), .int (iz (at0)), .ref os, .int (iz (od)), .int (iz (dn)), .int (iz (pu)), .int (iz (lo2)), .int (iz (sp2)), .int (iz (lv2)), .int (iz (wa)), .ref mt, .ref cn])), (nw, .inl (T 0, 115, .inl (zA (zup (mz (zup Z (82 + (Z 114).toNat * 4 + 0) a)) (83 + 4 * (Z 114).toNat + 1) b))))] H := hP
  have hD : va_D A [(mm, .inr (7, [.ref nw, .ref pa, .int (iz (kp)), .ref zl, .ref hd, .ref pd, .int (iz (pn)), .int (iz (at0)), .ref os, .int (iz (od)), .int (iz (dn)), .int (iz (pu)), .int (iz (lo2)), .int (iz (sp2)), .int (iz (lv2)), .int (iz (wa)), .ref mt, .ref cn])), (nw, .inl (T 0, 115, .inl (zA (zup (mz (zup Z (82 + (Z 114).toNat * 4 + 0) a)) (83 + 4 * (Z 114).toNat + 1) b))))] := hD
  have hZ : (zup (mz (zup Z (82 + (Z 114).toNat * 4 + 0) a)) (83 + 4 * (Z 114).toNat + 1) b : Nat → Int) = mz (zup (zup Z (82 + (Z 114).toNat * 4 + 0) a) (82 + (Z 114).toNat * 4 + 1) b) := (mz_upR (by omega))
  have hP : va_P D vwCl [(mm, .inr (7, [.ref nw, .ref pa, .int (iz (kp)), .ref zl, .ref hd, .ref pd, .int (iz (pn)), .int (iz (at0)), .ref os, .int (iz (od)), .int (iz (dn)), .int (iz (pu)), .int (iz (lo2)), .int (iz (sp2)), .int (iz (lv2)), .int (iz (wa)), .ref mt, .ref cn])), (nw, .inl (T 0, 115, .inl (zA (mz (zup (zup Z (82 + (Z 114).toNat * 4 + 0) a) (82 + (Z 114).toNat * 4 + 1) b)))))] H := by rw [← hZ]; exact hP
  have hD : va_D A [(mm, .inr (7, [.ref nw, .ref pa, .int (iz (kp)), .ref zl, .ref hd, .ref pd, .int (iz (pn)), .int (iz (at0)), .ref os, .int (iz (od)), .int (iz (dn)), .int (iz (pu)), .int (iz (lo2)), .int (iz (sp2)), .int (iz (lv2)), .int (iz (wa)), .ref mt, .ref cn])), (nw, .inl (T 0, 115, .inl (zA (mz (zup (zup Z (82 + (Z 114).toNat * 4 + 0) a) (82 + (Z 114).toNat * 4 + 1) b)))))] := by rw [← hZ]; exact hD
  refine lv_aload_n hx hb dX7_comes_32 rfl (lv_at hl 1 rfl) ?_
  refine va_get (D := D) (ci := 7) (C := RX7) (T := TX7) (N := 18) hx hb hts w1 hown hK.1 hP 0 rfl rfl 0 (by decide) w0 (fun _ h9 => h9) rfl dX7_comes_33 ?_
  refine lv_iload hx hb dX7_comes_36 (lv_at hl 0 rfl) ?_
  refine lv_iconst (v := iz (2)) hx hb dX7_comes_38 (by decide) ?_
  refine kz_add hx hb dX7_comes_39 ?_
  refine lv_iload_n hx hb dX7_comes_40 rfl (lv_at hl 4 rfl) ?_
  refine kz_iast hx hb hK hP hD hS (1) rfl (83 + 4 * (Z 114).toNat + 2) (by omega) (by omega) (by omega) dX7_comes_41 (fun H locs hP hD hS => ?_)
  have hP : va_P D vwCl [(mm, .inr (7, [.ref nw, .ref pa, .int (iz (kp)), .ref zl, .ref hd, .ref pd, .int (iz (pn)), .int (iz (at0)), .ref os, .int (iz (od)), .int (iz (dn)), .int (iz (pu)), .int (iz (lo2)), .int (iz (sp2)), .int (iz (lv2)), .int (iz (wa)), .ref mt, .ref cn])), (nw, .inl (T 0, 115, .inl (zA (zup (mz (zup (zup Z (82 + (Z 114).toNat * 4 + 0) a) (82 + (Z 114).toNat * 4 + 1) b)) (83 + 4 * (Z 114).toNat + 2) c2))))] H := hP
  have hD : va_D A [(mm, .inr (7, [.ref nw, .ref pa, .int (iz (kp)), .ref zl, .ref hd, .ref pd, .int (iz (pn)), .int (iz (at0)), .ref os, .int (iz (od)), .int (iz (dn)), .int (iz (pu)), .int (iz (lo2)), .int (iz (sp2)), .int (iz (lv2)), .int (iz (wa)), .ref mt, .ref cn])), (nw, .inl (T 0, 115, .inl (zA (zup (mz (zup (zup Z (82 + (Z 114).toNat * 4 + 0) a) (82 + (Z 114).toNat * 4 + 1) b)) (83 + 4 * (Z 114).toNat + 2) c2))))] := hD
  have hZ : (zup (mz (zup (zup Z (82 + (Z 114).toNat * 4 + 0) a) (82 + (Z 114).toNat * 4 + 1) b)) (83 + 4 * (Z 114).toNat + 2) c2 : Nat → Int) = mz (zup (zup (zup Z (82 + (Z 114).toNat * 4 + 0) a) (82 + (Z 114).toNat * 4 + 1) b) (82 + (Z 114).toNat * 4 + 2) c2) := (mz_upR (by omega))
  have hP : va_P D vwCl [(mm, .inr (7, [.ref nw, .ref pa, .int (iz (kp)), .ref zl, .ref hd, .ref pd, .int (iz (pn)), .int (iz (at0)), .ref os, .int (iz (od)), .int (iz (dn)), .int (iz (pu)), .int (iz (lo2)), .int (iz (sp2)), .int (iz (lv2)), .int (iz (wa)), .ref mt, .ref cn])), (nw, .inl (T 0, 115, .inl (zA (mz (zup (zup (zup Z (82 + (Z 114).toNat * 4 + 0) a) (82 + (Z 114).toNat * 4 + 1) b) (82 + (Z 114).toNat * 4 + 2) c2)))))] H := by rw [← hZ]; exact hP
  have hD : va_D A [(mm, .inr (7, [.ref nw, .ref pa, .int (iz (kp)), .ref zl, .ref hd, .ref pd, .int (iz (pn)), .int (iz (at0)), .ref os, .int (iz (od)), .int (iz (dn)), .int (iz (pu)), .int (iz (lo2)), .int (iz (sp2)), .int (iz (lv2)), .int (iz (wa)), .ref mt, .ref cn])), (nw, .inl (T 0, 115, .inl (zA (mz (zup (zup (zup Z (82 + (Z 114).toNat * 4 + 0) a) (82 + (Z 114).toNat * 4 + 1) b) (82 + (Z 114).toNat * 4 + 2) c2)))))] := by rw [← hZ]; exact hD
  refine lv_aload_n hx hb dX7_comes_42 rfl (lv_at hl 1 rfl) ?_
  refine va_get (D := D) (ci := 7) (C := RX7) (T := TX7) (N := 18) hx hb hts w1 hown hK.1 hP 0 rfl rfl 0 (by decide) w0 (fun _ h9 => h9) rfl dX7_comes_43 ?_
  refine lv_iload hx hb dX7_comes_46 (lv_at hl 0 rfl) ?_
  refine lv_iconst (v := iz (3)) hx hb dX7_comes_48 (by decide) ?_
  refine kz_add hx hb dX7_comes_49 ?_
  refine lv_iload hx hb dX7_comes_50 (lv_at hl 5 rfl) ?_
  refine kz_iast hx hb hK hP hD hS (1) rfl (83 + 4 * (Z 114).toNat + 3) (by omega) (by omega) (by omega) dX7_comes_52 (fun H locs hP hD hS => ?_)
  have hP : va_P D vwCl [(mm, .inr (7, [.ref nw, .ref pa, .int (iz (kp)), .ref zl, .ref hd, .ref pd, .int (iz (pn)), .int (iz (at0)), .ref os, .int (iz (od)), .int (iz (dn)), .int (iz (pu)), .int (iz (lo2)), .int (iz (sp2)), .int (iz (lv2)), .int (iz (wa)), .ref mt, .ref cn])), (nw, .inl (T 0, 115, .inl (zA (zup (mz (zup (zup (zup Z (82 + (Z 114).toNat * 4 + 0) a) (82 + (Z 114).toNat * 4 + 1) b) (82 + (Z 114).toNat * 4 + 2) c2)) (83 + 4 * (Z 114).toNat + 3) d2))))] H := hP
  have hD : va_D A [(mm, .inr (7, [.ref nw, .ref pa, .int (iz (kp)), .ref zl, .ref hd, .ref pd, .int (iz (pn)), .int (iz (at0)), .ref os, .int (iz (od)), .int (iz (dn)), .int (iz (pu)), .int (iz (lo2)), .int (iz (sp2)), .int (iz (lv2)), .int (iz (wa)), .ref mt, .ref cn])), (nw, .inl (T 0, 115, .inl (zA (zup (mz (zup (zup (zup Z (82 + (Z 114).toNat * 4 + 0) a) (82 + (Z 114).toNat * 4 + 1) b) (82 + (Z 114).toNat * 4 + 2) c2)) (83 + 4 * (Z 114).toNat + 3) d2))))] := hD
  have hZ : (zup (mz (zup (zup (zup Z (82 + (Z 114).toNat * 4 + 0) a) (82 + (Z 114).toNat * 4 + 1) b) (82 + (Z 114).toNat * 4 + 2) c2)) (83 + 4 * (Z 114).toNat + 3) d2 : Nat → Int) = mz (zup (zup (zup (zup Z (82 + (Z 114).toNat * 4 + 0) a) (82 + (Z 114).toNat * 4 + 1) b) (82 + (Z 114).toNat * 4 + 2) c2) (82 + (Z 114).toNat * 4 + 3) d2) := (mz_upR (by omega))
  have hP : va_P D vwCl [(mm, .inr (7, [.ref nw, .ref pa, .int (iz (kp)), .ref zl, .ref hd, .ref pd, .int (iz (pn)), .int (iz (at0)), .ref os, .int (iz (od)), .int (iz (dn)), .int (iz (pu)), .int (iz (lo2)), .int (iz (sp2)), .int (iz (lv2)), .int (iz (wa)), .ref mt, .ref cn])), (nw, .inl (T 0, 115, .inl (zA (mz (zup (zup (zup (zup Z (82 + (Z 114).toNat * 4 + 0) a) (82 + (Z 114).toNat * 4 + 1) b) (82 + (Z 114).toNat * 4 + 2) c2) (82 + (Z 114).toNat * 4 + 3) d2)))))] H := by rw [← hZ]; exact hP
  have hD : va_D A [(mm, .inr (7, [.ref nw, .ref pa, .int (iz (kp)), .ref zl, .ref hd, .ref pd, .int (iz (pn)), .int (iz (at0)), .ref os, .int (iz (od)), .int (iz (dn)), .int (iz (pu)), .int (iz (lo2)), .int (iz (sp2)), .int (iz (lv2)), .int (iz (wa)), .ref mt, .ref cn])), (nw, .inl (T 0, 115, .inl (zA (mz (zup (zup (zup (zup Z (82 + (Z 114).toNat * 4 + 0) a) (82 + (Z 114).toNat * 4 + 1) b) (82 + (Z 114).toNat * 4 + 2) c2) (82 + (Z 114).toNat * 4 + 3) d2)))))] := by rw [← hZ]; exact hD
  refine lv_aload_n hx hb dX7_comes_53 rfl (lv_at hl 1 rfl) ?_
  refine va_get (D := D) (ci := 7) (C := RX7) (T := TX7) (N := 18) hx hb hts w1 hown hK.1 hP 0 rfl rfl 0 (by decide) w0 (fun _ h9 => h9) rfl dX7_comes_54 ?_
  refine lv_bipush (v := iz (82)) hx hb dX7_comes_57 (by decide) ?_
  refine lv_dup2_11 hx hb dX7_comes_59 rfl rfl ?_
  refine kz_iald hx hb hK hP (1) rfl (82) (by omega) (by omega) (by omega) dX7_comes_60 ?_
  refine kz_top (y := (zup (zup (zup (zup Z (82 + (Z 114).toNat * 4 + 0) a) (82 + (Z 114).toNat * 4 + 1) b) (82 + (Z 114).toNat * 4 + 2) c2) (82 + (Z 114).toNat * 4 + 3) d2) 114) (mz_82 _) ?_
  have h114 : ((zup (zup (zup (zup Z (82 + (Z 114).toNat * 4 + 0) a) (82 + (Z 114).toNat * 4 + 1) b) (82 + (Z 114).toNat * 4 + 2) c2) (82 + (Z 114).toNat * 4 + 3) d2) 114) = Z 114 := by unfold zup; rw [if_neg (by omega), if_neg (by omega), if_neg (by omega), if_neg (by omega)]
  refine kz_top (y := Z 114) h114 ?_
  refine lv_iconst (v := iz (1)) hx hb dX7_comes_61 (by decide) ?_
  refine kz_add hx hb dX7_comes_62 ?_
  refine kz_iast hx hb hK hP hD hS (1) rfl (82) (by omega) (by omega) (by omega) dX7_comes_63 (fun H locs hP hD hS => ?_)
  have hP : va_P D vwCl [(mm, .inr (7, [.ref nw, .ref pa, .int (iz (kp)), .ref zl, .ref hd, .ref pd, .int (iz (pn)), .int (iz (at0)), .ref os, .int (iz (od)), .int (iz (dn)), .int (iz (pu)), .int (iz (lo2)), .int (iz (sp2)), .int (iz (lv2)), .int (iz (wa)), .ref mt, .ref cn])), (nw, .inl (T 0, 115, .inl (zA (zup (mz (zup (zup (zup (zup Z (82 + (Z 114).toNat * 4 + 0) a) (82 + (Z 114).toNat * 4 + 1) b) (82 + (Z 114).toNat * 4 + 2) c2) (82 + (Z 114).toNat * 4 + 3) d2)) 82 ((Z 114) + 1)))))] H := hP
  have hD : va_D A [(mm, .inr (7, [.ref nw, .ref pa, .int (iz (kp)), .ref zl, .ref hd, .ref pd, .int (iz (pn)), .int (iz (at0)), .ref os, .int (iz (od)), .int (iz (dn)), .int (iz (pu)), .int (iz (lo2)), .int (iz (sp2)), .int (iz (lv2)), .int (iz (wa)), .ref mt, .ref cn])), (nw, .inl (T 0, 115, .inl (zA (zup (mz (zup (zup (zup (zup Z (82 + (Z 114).toNat * 4 + 0) a) (82 + (Z 114).toNat * 4 + 1) b) (82 + (Z 114).toNat * 4 + 2) c2) (82 + (Z 114).toNat * 4 + 3) d2)) 82 ((Z 114) + 1)))))] := hD
  have hZ : (zup (mz (zup (zup (zup (zup Z (82 + (Z 114).toNat * 4 + 0) a) (82 + (Z 114).toNat * 4 + 1) b) (82 + (Z 114).toNat * 4 + 2) c2) (82 + (Z 114).toNat * 4 + 3) d2)) 82 ((Z 114) + 1) : Nat → Int) = mz (zup (zup (zup (zup (zup Z (82 + (Z 114).toNat * 4 + 0) a) (82 + (Z 114).toNat * 4 + 1) b) (82 + (Z 114).toNat * 4 + 2) c2) (82 + (Z 114).toNat * 4 + 3) d2) 114 ((Z 114) + 1)) := mz_up82
  have hP : va_P D vwCl [(mm, .inr (7, [.ref nw, .ref pa, .int (iz (kp)), .ref zl, .ref hd, .ref pd, .int (iz (pn)), .int (iz (at0)), .ref os, .int (iz (od)), .int (iz (dn)), .int (iz (pu)), .int (iz (lo2)), .int (iz (sp2)), .int (iz (lv2)), .int (iz (wa)), .ref mt, .ref cn])), (nw, .inl (T 0, 115, .inl (zA (mz (zup (zup (zup (zup (zup Z (82 + (Z 114).toNat * 4 + 0) a) (82 + (Z 114).toNat * 4 + 1) b) (82 + (Z 114).toNat * 4 + 2) c2) (82 + (Z 114).toNat * 4 + 3) d2) 114 ((Z 114) + 1))))))] H := by rw [← hZ]; exact hP
  have hD : va_D A [(mm, .inr (7, [.ref nw, .ref pa, .int (iz (kp)), .ref zl, .ref hd, .ref pd, .int (iz (pn)), .int (iz (at0)), .ref os, .int (iz (od)), .int (iz (dn)), .int (iz (pu)), .int (iz (lo2)), .int (iz (sp2)), .int (iz (lv2)), .int (iz (wa)), .ref mt, .ref cn])), (nw, .inl (T 0, 115, .inl (zA (mz (zup (zup (zup (zup (zup Z (82 + (Z 114).toNat * 4 + 0) a) (82 + (Z 114).toNat * 4 + 1) b) (82 + (Z 114).toNat * 4 + 2) c2) (82 + (Z 114).toNat * 4 + 3) d2) 114 ((Z 114) + 1))))))] := by rw [← hZ]; exact hD
  refine lv_aload_n hx hb dX7_comes_64 rfl (lv_at hl 1 rfl) ?_
  refine va_get (D := D) (ci := 7) (C := RX7) (T := TX7) (N := 18) hx hb hts w1 hown hK.1 hP 0 rfl rfl 0 (by decide) w0 (fun _ h9 => h9) rfl dX7_comes_65 ?_
  refine lv_bipush (v := iz (82)) hx hb dX7_comes_68 (by decide) ?_
  refine kz_iald hx hb hK hP (1) rfl (82) (by omega) (by omega) (by omega) dX7_comes_70 ?_
  refine kz_top (y := (zup (zup (zup (zup (zup Z (82 + (Z 114).toNat * 4 + 0) a) (82 + (Z 114).toNat * 4 + 1) b) (82 + (Z 114).toNat * 4 + 2) c2) (82 + (Z 114).toNat * 4 + 3) d2) 114 ((Z 114) + 1)) 114) (mz_82 _) ?_
  refine kz_top (y := Z 114 + 1) rfl ?_
  refine lv_iconst (v := iz (1)) hx hb dX7_comes_71 (by decide) ?_
  refine kz_sub hx hb dX7_comes_72 ?_
  have hZ : (mz (zup (zup (zup (zup (zup Z (82 + (Z 114).toNat * 4 + 0) a) (82 + (Z 114).toNat * 4 + 1) b) (82 + (Z 114).toNat * 4 + 2) c2) (82 + (Z 114).toNat * 4 + 3) d2) 114 ((Z 114) + 1)) : Nat → Int) = mz (lk_lay Z (Z 114).toNat a b c2 d2) := (by unfold lk_lay; rw [show (((Z 114).toNat : Nat) : Int) = Z 114 by omega])
  have hP : va_P D vwCl [(mm, .inr (7, [.ref nw, .ref pa, .int (iz (kp)), .ref zl, .ref hd, .ref pd, .int (iz (pn)), .int (iz (at0)), .ref os, .int (iz (od)), .int (iz (dn)), .int (iz (pu)), .int (iz (lo2)), .int (iz (sp2)), .int (iz (lv2)), .int (iz (wa)), .ref mt, .ref cn])), (nw, .inl (T 0, 115, .inl (zA (mz (lk_lay Z (Z 114).toNat a b c2 d2)))))] H := by rw [← hZ]; exact hP
  have hD : va_D A [(mm, .inr (7, [.ref nw, .ref pa, .int (iz (kp)), .ref zl, .ref hd, .ref pd, .int (iz (pn)), .int (iz (at0)), .ref os, .int (iz (od)), .int (iz (dn)), .int (iz (pu)), .int (iz (lo2)), .int (iz (sp2)), .int (iz (lv2)), .int (iz (wa)), .ref mt, .ref cn])), (nw, .inl (T 0, 115, .inl (zA (mz (lk_lay Z (Z 114).toNat a b c2 d2)))))] := by rw [← hZ]; exact hD
  exact W.iret hx hb hr (fun t ht hW => ⟨⟨_, (), rfl, (congrArg iz (by first | rfl | omega)), by show va_P _ _ _ t.heap; rw [ht]; exact hP⟩, hS.F ht⟩) hS.2.2 dX7_comes_73
set_option maxHeartbeats 4000000 in
set_option maxRecDepth 100000 in
theorem c_X7_contract (l : Launch) (D : va_G) (T : Nat → ClassId) (sz : Nat) (mm : Nat) (nw : Nat) (pa : Nat) (kp : Int) (zl : Nat) (hd : Nat) (pd : Nat) (pn : Int) (at0 : Int) (os : Nat) (od : Int) (dn : Int) (pu : Int) (lo2 : Int) (sp2 : Int) (lv2 : Int) (wa : Int) (mt : Nat) (cn : Nat) (Z : Nat → Int) (a : Int) (b : Int) (c2 : Int) (d2 : Int) (hia : -2147483648 ≤ a ∧ a < 2147483648) (hib : -2147483648 ≤ b ∧ b < 2147483648) (hic2 : -2147483648 ≤ c2 ∧ c2 < 2147483648) (hid2 : -2147483648 ≤ d2 ∧ d2 < 2147483648) (F0_ : Nat → Int) (hkp : 0 ≤ kp ∧ kp ≤ 6) (hV : VL Z) : Met l yX7_contract wsX7_contract ({ frames := 3, cells := 0, slots := 0, locals := 66 }) (kPc D T [.ref mm, .int (iz (a)), .int (iz (b)), .int (iz (c2)), .int (iz (d2))] (kW D sz [(mm, .inr (7, [.ref nw, .ref pa, .int (iz (kp)), .ref zl, .ref hd, .ref pd, .int (iz (pn)), .int (iz (at0)), .ref os, .int (iz (od)), .int (iz (dn)), .int (iz (pu)), .int (iz (lo2)), .int (iz (sp2)), .int (iz (lv2)), .int (iz (wa)), .ref mt, .ref cn])), (nw, .inl (T 0, 115, .inl (zA (mz Z)))), (pa, .inl (T 0, 690, .inl (zA F0_)))])) (va_Qi (fun (r : Int32) (u : Unit) => r = iz (lk_rCon Z a b c2 d2)) (fun (u : Unit) (t : State) => va_P D vwCl [(mm, .inr (7, [.ref nw, .ref pa, .int (iz (if mc_r Z a b c2 d2 = 0 then rc_n kp else kp)), .ref zl, .ref hd, .ref pd, .int (iz (pn)), .int (iz (at0)), .ref os, .int (iz (od)), .int (iz (dn)), .int (iz (pu)), .int (iz (lo2)), .int (iz (sp2)), .int (iz (lv2)), .int (iz (wa)), .ref mt, .ref cn])), (nw, .inl (T 0, 115, .inl (zA (mz (lk_zCon Z a b c2 d2))))), (pa, .inl (T 0, 690, .inl (zA (if mc_r Z a b c2 d2 = 0 then rc_F F0_ kp (mz Z) else F0_))))] t.heap) (va_A [(mm, .inr (7, [.ref nw, .ref pa, .int (iz (kp)), .ref zl, .ref hd, .ref pd, .int (iz (pn)), .int (iz (at0)), .ref os, .int (iz (od)), .int (iz (dn)), .int (iz (pu)), .int (iz (lo2)), .int (iz (sp2)), .int (iz (lv2)), .int (iz (wa)), .ref mt, .ref cn])), (nw, .inl (T 0, 115, .inl (zA (mz Z)))), (pa, .inl (T 0, 690, .inl (zA F0_)))] sz)) 0 0 (va_A [(mm, .inr (7, [.ref nw, .ref pa, .int (iz (kp)), .ref zl, .ref hd, .ref pd, .int (iz (pn)), .int (iz (at0)), .ref os, .int (iz (od)), .int (iz (dn)), .int (iz (pu)), .int (iz (lo2)), .int (iz (sp2)), .int (iz (lv2)), .int (iz (wa)), .ref mt, .ref cn])), (nw, .inl (T 0, 115, .inl (zA (mz Z)))), (pa, .inl (T 0, 690, .inl (zA F0_)))] sz) := by
  refine Met.ofW (cc := cX7_contract) (maxL := 6) (ret := (some .int)) (by decide) rfl ?_
  intro p e s m args below meth c s₁ B hml hv
  obtain ⟨rfl, hK, hsz, hP, hD0⟩ := hv
  have hx := B.exec
  have hb := B.bytes
  have hr := B.returns
  have hts := atoms_spec (ws := wsX7_contract) B.pre
  have hown : s.vm.findClass RX7 = some m.cls := findClass_of_methodNamed B.named
  have hlocks := B.notSynchronized
  subst hsz
  have hD := hD0.self (sz := s.heap.size)
  generalize hAe : va_A [(mm, .inr (7, [.ref nw, .ref pa, .int (iz (kp)), .ref zl, .ref hd, .ref pd, .int (iz (pn)), .int (iz (at0)), .ref os, .int (iz (od)), .int (iz (dn)), .int (iz (pu)), .int (iz (lo2)), .int (iz (sp2)), .int (iz (lv2)), .int (iz (wa)), .ref mt, .ref cn])), (nw, .inl (T 0, 115, .inl (zA (mz Z)))), (pa, .inl (T 0, 690, .inl (zA F0_)))] s.heap.size = A at hD ⊢
  have hA : ∀ q : Nat, s.heap.size ≤ q → A q := fun q h => by rw [← hAe]; exact Or.inr h
  have hS : va_S A s.heap s.heap [] := va_S.rf
  have hP : va_P D vwCl [(mm, .inr (7, [.ref nw, .ref pa, .int (iz (kp)), .ref zl, .ref hd, .ref pd, .int (iz (pn)), .int (iz (at0)), .ref os, .int (iz (od)), .int (iz (dn)), .int (iz (pu)), .int (iz (lo2)), .int (iz (sp2)), .int (iz (lv2)), .int (iz (wa)), .ref mt, .ref cn])), (nw, .inl (T 0, 115, .inl (zA (mz Z)))), (pa, .inl (T 0, 690, .inl (zA F0_)))] s.heap := hP
  have hl := lv_entry ([.ref mm, .int (iz (a)), .int (iz (b)), .int (iz (c2)), .int (iz (d2))]) (n := 6) (Nat.le_of_ble_eq_true rfl)
  rw [lg_entry_eq]
  generalize (lg_sl ([.ref mm, .int (iz (a)), .int (iz (b)), .int (iz (c2)), .int (iz (d2))]) ++ List.replicate (6 - (lg_sl ([.ref mm, .int (iz (a)), .int (iz (b)), .int (iz (c2)), .int (iz (d2))])).length) Slot.unset).toArray = ls at hl ⊢
  have hl : lv_has ls 6 [(0, .ref mm), (1, .int (iz (a))), (2, .int (iz (b))), (3, .int (iz (c2))), (4, .int (iz (d2)))] := hl
  have hs := hV.1
  unfold VS at hs
  have hmr := mc_r_rng Z a b c2 d2
  have hcn := mc_con Z a b c2 d2
  refine lv_aload_n hx hb dX7_contract_0 rfl (lv_at hl 0 rfl) ?_
  refine lv_iload_n hx hb dX7_contract_1 rfl (lv_at hl 1 rfl) ?_
  refine lv_iload_n hx hb dX7_contract_2 rfl (lv_at hl 2 rfl) ?_
  refine lv_iload_n hx hb dX7_contract_3 rfl (lv_at hl 3 rfl) ?_
  refine lv_iload hx hb dX7_contract_4 (lv_at hl 4 rfl) ?_
  refine kc_i (va_runV (As := [.int (iz (a)), .int (iz (b)), .int (iz (c2)), .int (iz (d2))]) (rest := []) ⟨hx, hb, hml, hown, hts⟩ (c_X7_mayContract l D T mm nw pa kp zl hd pd pn at0 os od dn pu lo2 sp2 lv2 wa mt cn Z a b c2 d2 (by omega) (by omega) (by omega) (by omega) hV) (cwV 4 hts gX7_contract_X7_mayContract rfl rfl rfl (by decide +kernel) ⟨Nat.le_of_ble_eq_true rfl, Nat.le_of_ble_eq_true rfl⟩) (kPc.v hK (va_recv hK.1 hP (ci := 7) (q0 := 0) rfl rfl) (kcut hP [0, 1] rfl)) rfl rfl hl.1 rfl (lv_room (Nat.le_of_ble_eq_true rfl)) dX7_contract_6 ⟨Nat.zero_le _, Nat.zero_le _⟩) (fun r1 hr1 => ?_)
  subst hr1
  refine lv_istore (lv' := [(5, .int (iz (mc_r Z a b c2 d2))), (0, .ref mm), (1, .int (iz (a))), (2, .int (iz (b))), (3, .int (iz (c2))), (4, .int (iz (d2)))]) hx hb dX7_contract_9 hl (by decide) rfl (fun ls hl => ?_)
  refine lv_iload hx hb dX7_contract_11 (lv_at hl 0 rfl) ?_
  refine kz_if_eq (tgt := 19) hx hb dX7_contract_13 (by decide) (by omega) (fun c13 => ?_) (fun c13 => ?_)
  · have h8 : Z 114 < 8 := by unfold mc_r at c13; (repeat' split at c13) <;> first | assumption | omega
    refine lv_aload_n hx hb dX7_contract_19 rfl (lv_at hl 1 rfl) ?_
    refine kc_wv (va_runV (As := []) (rest := []) ⟨hx, hb, hml, hown, hts⟩ (c_X7_records l D T s.heap.size mm nw pa kp zl hd pd pn at0 os od dn pu lo2 sp2 lv2 wa mt cn Z F0_ (by omega)) (cwV 0 hts gX7_contract_X7_records rfl rfl rfl (by decide +kernel) ⟨Nat.le_of_ble_eq_true rfl, Nat.le_of_ble_eq_true rfl⟩) (kPc.v hK (va_recv hK.1 hP (ci := 7) (q0 := 0) rfl rfl) (kW.cut hP hD [0, 1, 2] rfl (by rfl))) rfl rfl hl.1 rfl (lv_room (Nat.le_of_ble_eq_true rfl)) dX7_contract_20 ⟨Nat.zero_le _, Nat.zero_le _⟩) hP hD hS hA [0, 1, 2] rfl (fun _ => rfl) (fun u H locs hr2 hP hD hS => ?_)
    have hP : va_P D vwCl [(mm, .inr (7, [.ref nw, .ref pa, .int (iz (rc_n kp)), .ref zl, .ref hd, .ref pd, .int (iz (pn)), .int (iz (at0)), .ref os, .int (iz (od)), .int (iz (dn)), .int (iz (pu)), .int (iz (lo2)), .int (iz (sp2)), .int (iz (lv2)), .int (iz (wa)), .ref mt, .ref cn])), (nw, .inl (T 0, 115, .inl (zA (mz Z)))), (pa, .inl (T 0, 690, .inl (zA (rc_F F0_ kp (mz Z)))))] H := hP
    have hD : va_D A [(mm, .inr (7, [.ref nw, .ref pa, .int (iz (rc_n kp)), .ref zl, .ref hd, .ref pd, .int (iz (pn)), .int (iz (at0)), .ref os, .int (iz (od)), .int (iz (dn)), .int (iz (pu)), .int (iz (lo2)), .int (iz (sp2)), .int (iz (lv2)), .int (iz (wa)), .ref mt, .ref cn])), (nw, .inl (T 0, 115, .inl (zA (mz Z)))), (pa, .inl (T 0, 690, .inl (zA (rc_F F0_ kp (mz Z)))))] := hD
    refine lv_aload_n hx hb dX7_contract_23 rfl (lv_at hl 1 rfl) ?_
    refine lv_iload_n hx hb dX7_contract_24 rfl (lv_at hl 2 rfl) ?_
    refine lv_iload_n hx hb dX7_contract_25 rfl (lv_at hl 3 rfl) ?_
    refine lv_iload_n hx hb dX7_contract_26 rfl (lv_at hl 4 rfl) ?_
    refine lv_iload hx hb dX7_contract_27 (lv_at hl 5 rfl) ?_
    refine kc_wi (va_runV (As := [.int (iz (a)), .int (iz (b)), .int (iz (c2)), .int (iz (d2))]) (rest := []) ⟨hx, hb, hml, hown, hts⟩ (c_X7_comes l D T H.size mm nw pa (rc_n kp) zl hd pd pn at0 os od dn pu lo2 sp2 lv2 wa mt cn Z a b c2 d2 hV h8) (cwV 4 hts gX7_contract_X7_comes rfl rfl rfl (by decide +kernel) ⟨Nat.le_of_ble_eq_true rfl, Nat.le_of_ble_eq_true rfl⟩) (kPc.v hK (va_recv hK.1 hP (ci := 7) (q0 := 0) rfl rfl) (kW.cut hP hD [0, 1] rfl (by rfl))) rfl rfl hl.1 rfl (lv_room (Nat.le_of_ble_eq_true rfl)) dX7_contract_29 ⟨Nat.zero_le _, Nat.zero_le _⟩) hP hD hS hA [0, 1] rfl (fun _ => rfl) (fun r3 u H locs hr3 hP hD hS => ?_)
    have hP : va_P D vwCl [(mm, .inr (7, [.ref nw, .ref pa, .int (iz ((rc_n kp))), .ref zl, .ref hd, .ref pd, .int (iz (pn)), .int (iz (at0)), .ref os, .int (iz (od)), .int (iz (dn)), .int (iz (pu)), .int (iz (lo2)), .int (iz (sp2)), .int (iz (lv2)), .int (iz (wa)), .ref mt, .ref cn])), (nw, .inl (T 0, 115, .inl (zA (mz (lk_lay Z (Z 114).toNat a b c2 d2))))), (pa, .inl (T 0, 690, .inl (zA (rc_F F0_ kp (mz Z)))))] H := hP
    have hD : va_D A [(mm, .inr (7, [.ref nw, .ref pa, .int (iz ((rc_n kp))), .ref zl, .ref hd, .ref pd, .int (iz (pn)), .int (iz (at0)), .ref os, .int (iz (od)), .int (iz (dn)), .int (iz (pu)), .int (iz (lo2)), .int (iz (sp2)), .int (iz (lv2)), .int (iz (wa)), .ref mt, .ref cn])), (nw, .inl (T 0, 115, .inl (zA (mz (lk_lay Z (Z 114).toNat a b c2 d2))))), (pa, .inl (T 0, 690, .inl (zA (rc_F F0_ kp (mz Z)))))] := hD
    subst hr3
    have hZ : ((rc_n kp) : Int) = if mc_r Z a b c2 d2 = 0 then rc_n kp else kp := (by rw [if_pos c13])
    have hP : va_P D vwCl [(mm, .inr (7, [.ref nw, .ref pa, .int (iz (if mc_r Z a b c2 d2 = 0 then rc_n kp else kp)), .ref zl, .ref hd, .ref pd, .int (iz (pn)), .int (iz (at0)), .ref os, .int (iz (od)), .int (iz (dn)), .int (iz (pu)), .int (iz (lo2)), .int (iz (sp2)), .int (iz (lv2)), .int (iz (wa)), .ref mt, .ref cn])), (nw, .inl (T 0, 115, .inl (zA (mz (lk_lay Z (Z 114).toNat a b c2 d2))))), (pa, .inl (T 0, 690, .inl (zA (rc_F F0_ kp (mz Z)))))] H := by rw [← hZ]; exact hP
    have hD : va_D A [(mm, .inr (7, [.ref nw, .ref pa, .int (iz (if mc_r Z a b c2 d2 = 0 then rc_n kp else kp)), .ref zl, .ref hd, .ref pd, .int (iz (pn)), .int (iz (at0)), .ref os, .int (iz (od)), .int (iz (dn)), .int (iz (pu)), .int (iz (lo2)), .int (iz (sp2)), .int (iz (lv2)), .int (iz (wa)), .ref mt, .ref cn])), (nw, .inl (T 0, 115, .inl (zA (mz (lk_lay Z (Z 114).toNat a b c2 d2))))), (pa, .inl (T 0, 690, .inl (zA (rc_F F0_ kp (mz Z)))))] := by rw [← hZ]; exact hD
    have hZ : (mz (lk_lay Z (Z 114).toNat a b c2 d2) : Nat → Int) = mz (lk_zCon Z a b c2 d2) := (by rw [hcn.2, if_pos c13])
    have hP : va_P D vwCl [(mm, .inr (7, [.ref nw, .ref pa, .int (iz (if mc_r Z a b c2 d2 = 0 then rc_n kp else kp)), .ref zl, .ref hd, .ref pd, .int (iz (pn)), .int (iz (at0)), .ref os, .int (iz (od)), .int (iz (dn)), .int (iz (pu)), .int (iz (lo2)), .int (iz (sp2)), .int (iz (lv2)), .int (iz (wa)), .ref mt, .ref cn])), (nw, .inl (T 0, 115, .inl (zA (mz (lk_zCon Z a b c2 d2))))), (pa, .inl (T 0, 690, .inl (zA (rc_F F0_ kp (mz Z)))))] H := by rw [← hZ]; exact hP
    have hD : va_D A [(mm, .inr (7, [.ref nw, .ref pa, .int (iz (if mc_r Z a b c2 d2 = 0 then rc_n kp else kp)), .ref zl, .ref hd, .ref pd, .int (iz (pn)), .int (iz (at0)), .ref os, .int (iz (od)), .int (iz (dn)), .int (iz (pu)), .int (iz (lo2)), .int (iz (sp2)), .int (iz (lv2)), .int (iz (wa)), .ref mt, .ref cn])), (nw, .inl (T 0, 115, .inl (zA (mz (lk_zCon Z a b c2 d2))))), (pa, .inl (T 0, 690, .inl (zA (rc_F F0_ kp (mz Z)))))] := by rw [← hZ]; exact hD
    have hZ : (rc_F F0_ kp (mz Z) : Nat → Int) = if mc_r Z a b c2 d2 = 0 then rc_F F0_ kp (mz Z) else F0_ := (by rw [if_pos c13])
    have hP : va_P D vwCl [(mm, .inr (7, [.ref nw, .ref pa, .int (iz (if mc_r Z a b c2 d2 = 0 then rc_n kp else kp)), .ref zl, .ref hd, .ref pd, .int (iz (pn)), .int (iz (at0)), .ref os, .int (iz (od)), .int (iz (dn)), .int (iz (pu)), .int (iz (lo2)), .int (iz (sp2)), .int (iz (lv2)), .int (iz (wa)), .ref mt, .ref cn])), (nw, .inl (T 0, 115, .inl (zA (mz (lk_zCon Z a b c2 d2))))), (pa, .inl (T 0, 690, .inl (zA (if mc_r Z a b c2 d2 = 0 then rc_F F0_ kp (mz Z) else F0_))))] H := by rw [← hZ]; exact hP
    have hD : va_D A [(mm, .inr (7, [.ref nw, .ref pa, .int (iz (if mc_r Z a b c2 d2 = 0 then rc_n kp else kp)), .ref zl, .ref hd, .ref pd, .int (iz (pn)), .int (iz (at0)), .ref os, .int (iz (od)), .int (iz (dn)), .int (iz (pu)), .int (iz (lo2)), .int (iz (sp2)), .int (iz (lv2)), .int (iz (wa)), .ref mt, .ref cn])), (nw, .inl (T 0, 115, .inl (zA (mz (lk_zCon Z a b c2 d2))))), (pa, .inl (T 0, 690, .inl (zA (if mc_r Z a b c2 d2 = 0 then rc_F F0_ kp (mz Z) else F0_))))] := by rw [← hZ]; exact hD
    exact W.iret hx hb hr (fun t ht hW => ⟨⟨_, (), rfl, (congrArg iz (by rw [hcn.1, if_pos c13])), by show va_P _ _ _ t.heap; rw [ht]; exact hP⟩, hS.F ht⟩) hS.2.2 dX7_contract_32
  · refine lv_iload hx hb dX7_contract_16 (lv_at hl 0 rfl) ?_
    have hZ : (kp : Int) = if mc_r Z a b c2 d2 = 0 then rc_n kp else kp := (by rw [if_neg c13])
    have hP : va_P D vwCl [(mm, .inr (7, [.ref nw, .ref pa, .int (iz (if mc_r Z a b c2 d2 = 0 then rc_n kp else kp)), .ref zl, .ref hd, .ref pd, .int (iz (pn)), .int (iz (at0)), .ref os, .int (iz (od)), .int (iz (dn)), .int (iz (pu)), .int (iz (lo2)), .int (iz (sp2)), .int (iz (lv2)), .int (iz (wa)), .ref mt, .ref cn])), (nw, .inl (T 0, 115, .inl (zA (mz Z)))), (pa, .inl (T 0, 690, .inl (zA F0_)))] s.heap := by rw [← hZ]; exact hP
    have hD : va_D A [(mm, .inr (7, [.ref nw, .ref pa, .int (iz (if mc_r Z a b c2 d2 = 0 then rc_n kp else kp)), .ref zl, .ref hd, .ref pd, .int (iz (pn)), .int (iz (at0)), .ref os, .int (iz (od)), .int (iz (dn)), .int (iz (pu)), .int (iz (lo2)), .int (iz (sp2)), .int (iz (lv2)), .int (iz (wa)), .ref mt, .ref cn])), (nw, .inl (T 0, 115, .inl (zA (mz Z)))), (pa, .inl (T 0, 690, .inl (zA F0_)))] := by rw [← hZ]; exact hD
    have hZ : (mz Z : Nat → Int) = mz (lk_zCon Z a b c2 d2) := (by rw [hcn.2, if_neg c13])
    have hP : va_P D vwCl [(mm, .inr (7, [.ref nw, .ref pa, .int (iz (if mc_r Z a b c2 d2 = 0 then rc_n kp else kp)), .ref zl, .ref hd, .ref pd, .int (iz (pn)), .int (iz (at0)), .ref os, .int (iz (od)), .int (iz (dn)), .int (iz (pu)), .int (iz (lo2)), .int (iz (sp2)), .int (iz (lv2)), .int (iz (wa)), .ref mt, .ref cn])), (nw, .inl (T 0, 115, .inl (zA (mz (lk_zCon Z a b c2 d2))))), (pa, .inl (T 0, 690, .inl (zA F0_)))] s.heap := by rw [← hZ]; exact hP
    have hD : va_D A [(mm, .inr (7, [.ref nw, .ref pa, .int (iz (if mc_r Z a b c2 d2 = 0 then rc_n kp else kp)), .ref zl, .ref hd, .ref pd, .int (iz (pn)), .int (iz (at0)), .ref os, .int (iz (od)), .int (iz (dn)), .int (iz (pu)), .int (iz (lo2)), .int (iz (sp2)), .int (iz (lv2)), .int (iz (wa)), .ref mt, .ref cn])), (nw, .inl (T 0, 115, .inl (zA (mz (lk_zCon Z a b c2 d2))))), (pa, .inl (T 0, 690, .inl (zA F0_)))] := by rw [← hZ]; exact hD
    have hZ : (F0_ : Nat → Int) = if mc_r Z a b c2 d2 = 0 then rc_F F0_ kp (mz Z) else F0_ := (by rw [if_neg c13])
    have hP : va_P D vwCl [(mm, .inr (7, [.ref nw, .ref pa, .int (iz (if mc_r Z a b c2 d2 = 0 then rc_n kp else kp)), .ref zl, .ref hd, .ref pd, .int (iz (pn)), .int (iz (at0)), .ref os, .int (iz (od)), .int (iz (dn)), .int (iz (pu)), .int (iz (lo2)), .int (iz (sp2)), .int (iz (lv2)), .int (iz (wa)), .ref mt, .ref cn])), (nw, .inl (T 0, 115, .inl (zA (mz (lk_zCon Z a b c2 d2))))), (pa, .inl (T 0, 690, .inl (zA (if mc_r Z a b c2 d2 = 0 then rc_F F0_ kp (mz Z) else F0_))))] s.heap := by rw [← hZ]; exact hP
    have hD : va_D A [(mm, .inr (7, [.ref nw, .ref pa, .int (iz (if mc_r Z a b c2 d2 = 0 then rc_n kp else kp)), .ref zl, .ref hd, .ref pd, .int (iz (pn)), .int (iz (at0)), .ref os, .int (iz (od)), .int (iz (dn)), .int (iz (pu)), .int (iz (lo2)), .int (iz (sp2)), .int (iz (lv2)), .int (iz (wa)), .ref mt, .ref cn])), (nw, .inl (T 0, 115, .inl (zA (mz (lk_zCon Z a b c2 d2))))), (pa, .inl (T 0, 690, .inl (zA (if mc_r Z a b c2 d2 = 0 then rc_F F0_ kp (mz Z) else F0_))))] := by rw [← hZ]; exact hD
    exact W.iret hx hb hr (fun t ht hW => ⟨⟨_, (), rfl, (congrArg iz (by rw [hcn.1, if_neg c13])), by show va_P _ _ _ t.heap; rw [ht]; exact hP⟩, hS.F ht⟩) hS.2.2 dX7_contract_18
