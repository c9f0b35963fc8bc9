set_option maxHeartbeats 4000000 in
set_option maxRecDepth 100000 in
theorem c_X2_changeSetting (l : Launch) (D : va_G) (T : Nat → ClassId) (sz : Nat) (h0 : Nat) (h1 : Nat) (Z : Nat → Int) (ve : Int) (mv : Nat) (st : Int) (vv : Int) (hist : -2147483648 ≤ st ∧ st < 2147483648) (hivv : -2147483648 ≤ vv ∧ vv < 2147483648) (hV : VL Z) : Met l yX2_changeSetting wsX2_changeSetting ({ frames := 3, cells := 0, slots := 0, locals := 66 }) (kPcM D T [.ref h0, .int (iz (st)), .int (iz (vv))] "MOST_VALUES" mvF mv (va_A [(h0, .inr (2, [.ref h1, .int (iz (ve))])), (h1, .inl (T 0, 115, .inl (zA Z)))] sz) (kW D sz [(h0, .inr (2, [.ref h1, .int (iz (ve))])), (h1, .inl (T 0, 115, .inl (zA Z)))])) (va_Qi (fun (r : Int32) (u : Unit) => r = iz (lk_rSet Z st vv)) (fun (u : Unit) (t : State) => va_P D vwCl [(h0, .inr (2, [.ref h1, .int (iz (lk_vSet Z st vv ve))])), (h1, .inl (T 0, 115, .inl (zA (lk_zSet Z st vv))))] t.heap) (va_A [(h0, .inr (2, [.ref h1, .int (iz (ve))])), (h1, .inl (T 0, 115, .inl (zA Z)))] sz)) 0 0 (va_A [(h0, .inr (2, [.ref h1, .int (iz (ve))])), (h1, .inl (T 0, 115, .inl (zA Z)))] sz) := by
  refine Met.ofW (cc := cX2_changeSetting) (maxL := 3) (ret := (some .int)) (by decide) rfl ?_
  intro p e s m args below meth c s₁ B hml hv
  obtain ⟨rfl, hK, hM, hsz, hP, hD0⟩ := hv
  have hx := B.exec
  have hb := B.bytes
  have hr := B.returns
  have hts := atoms_spec (ws := wsX2_changeSetting) B.pre
  have hown : s.vm.findClass RX2 = some m.cls := findClass_of_methodNamed B.named
  have hlocks := B.notSynchronized
  have w0 := hts (.fieldLink RX2 34 "LakePlant$Lake" "MOST_VALUES" "[I") (List.mem_of_getElem? (i := 1) rfl)
  have w1 := hts (.fieldLink RX2 15 "LakePlant$Lake" "version" "I") (List.mem_of_getElem? (i := 2) rfl)
  have w2 : ∀ w ∈ wsX20, w ∈ wsX2_changeSetting := by decide +kernel
  subst hsz
  have hD := hD0.self (sz := s.heap.size)
  generalize hAe : va_A [(h0, .inr (2, [.ref h1, .int (iz (ve))])), (h1, .inl (T 0, 115, .inl (zA Z)))] s.heap.size = A at hD hM ⊢
  have hA : ∀ q : Nat, s.heap.size ≤ q → A q := fun q h => by rw [← hAe]; exact Or.inr h
  have hS : va_S A s.heap s.heap [] := va_S.rf
  have hP : va_P D vwCl [(h0, .inr (2, [.ref h1, .int (iz (ve))])), (h1, .inl (T 0, 115, .inl (zA Z)))] s.heap := hP
  have hl := lv_entry ([.ref h0, .int (iz (st)), .int (iz (vv))]) (n := 3) (Nat.le_of_ble_eq_true rfl)
  rw [lg_entry_eq]
  generalize (lg_sl ([.ref h0, .int (iz (st)), .int (iz (vv))]) ++ List.replicate (3 - (lg_sl ([.ref h0, .int (iz (st)), .int (iz (vv))])).length) Slot.unset).toArray = ls at hl ⊢
  have hl : lv_has ls 3 [(0, .ref h0), (1, .int (iz (st))), (2, .int (iz (vv)))] := hl
  have hs := hV.1
  unfold VS at hs
  have hmv := mvF_rng st.toNat
  refine lv_iload_n hx hb dX2_changeSetting_0 rfl (lv_at hl 1 rfl) ?_
  refine kz_if_lt (tgt := 23) hx hb dX2_changeSetting_1 (by decide) (by omega) (fun c1 => ?_) (fun c1 => ?_)
  · refine lv_bipush (v := iz (-2)) hx hb dX2_changeSetting_23 (by decide) ?_
    have hZ : (ve : Int) = lk_vSet Z st vv ve := (by unfold lk_vSet; rw [if_neg (by omega)])
    have hP : va_P D vwCl [(h0, .inr (2, [.ref h1, .int (iz (lk_vSet Z st vv ve))])), (h1, .inl (T 0, 115, .inl (zA Z)))] s.heap := by rw [← hZ]; exact hP
    have hD : va_D A [(h0, .inr (2, [.ref h1, .int (iz (lk_vSet Z st vv ve))])), (h1, .inl (T 0, 115, .inl (zA Z)))] := by rw [← hZ]; exact hD
    have hZ : (Z : Nat → Int) = lk_zSet Z st vv := (by unfold lk_zSet; rw [if_neg (by omega)])
    have hP : va_P D vwCl [(h0, .inr (2, [.ref h1, .int (iz (lk_vSet Z st vv ve))])), (h1, .inl (T 0, 115, .inl (zA (lk_zSet Z st vv))))] s.heap := by rw [← hZ]; exact hP
    have hD : va_D A [(h0, .inr (2, [.ref h1, .int (iz (lk_vSet Z st vv ve))])), (h1, .inl (T 0, 115, .inl (zA (lk_zSet Z st vv))))] := by rw [← hZ]; exact hD
    exact W.iret hx hb hr (fun t ht hW => ⟨⟨_, (), rfl, (congrArg iz (by unfold lk_rSet; rw [if_neg (by omega)])), by show va_P _ _ _ t.heap; rw [ht]; exact hP⟩, hS.F ht⟩) hS.2.2 dX2_changeSetting_25
  · refine lv_iload_n hx hb dX2_changeSetting_4 rfl (lv_at hl 1 rfl) ?_
    refine lv_bipush (v := iz (10)) hx hb dX2_changeSetting_5 (by decide) ?_
    refine kz_icmp_ge (tgt := 23) hx hb dX2_changeSetting_7 (by decide) (by omega) (by omega) (fun c7 => ?_) (fun c7 => ?_)
    · refine lv_bipush (v := iz (-2)) hx hb dX2_changeSetting_23 (by decide) ?_
      have hZ : (ve : Int) = lk_vSet Z st vv ve := (by unfold lk_vSet; rw [if_neg (by omega)])
      have hP : va_P D vwCl [(h0, .inr (2, [.ref h1, .int (iz (lk_vSet Z st vv ve))])), (h1, .inl (T 0, 115, .inl (zA Z)))] s.heap := by rw [← hZ]; exact hP
      have hD : va_D A [(h0, .inr (2, [.ref h1, .int (iz (lk_vSet Z st vv ve))])), (h1, .inl (T 0, 115, .inl (zA Z)))] := by rw [← hZ]; exact hD
      have hZ : (Z : Nat → Int) = lk_zSet Z st vv := (by unfold lk_zSet; rw [if_neg (by omega)])
      have hP : va_P D vwCl [(h0, .inr (2, [.ref h1, .int (iz (lk_vSet Z st vv ve))])), (h1, .inl (T 0, 115, .inl (zA (lk_zSet Z st vv))))] s.heap := by rw [← hZ]; exact hP
      have hD : va_D A [(h0, .inr (2, [.ref h1, .int (iz (lk_vSet Z st vv ve))])), (h1, .inl (T 0, 115, .inl (zA (lk_zSet Z st vv))))] := by rw [← hZ]; exact hD
      exact W.iret hx hb hr (fun t ht hW => ⟨⟨_, (), rfl, (congrArg iz (by unfold lk_rSet; rw [if_neg (by omega)])), by show va_P _ _ _ t.heap; rw [ht]; exact hP⟩, hS.F ht⟩) hS.2.2 dX2_changeSetting_25
    · refine lv_iload_n hx hb dX2_changeSetting_10 rfl (lv_at hl 2 rfl) ?_
      refine kz_if_lt (tgt := 23) hx hb dX2_changeSetting_11 (by decide) (by omega) (fun c11 => ?_) (fun c11 => ?_)
      · refine lv_bipush (v := iz (-2)) hx hb dX2_changeSetting_23 (by decide) ?_
        have hZ : (ve : Int) = lk_vSet Z st vv ve := (by unfold lk_vSet; rw [if_neg (by omega)])
        have hP : va_P D vwCl [(h0, .inr (2, [.ref h1, .int (iz (lk_vSet Z st vv ve))])), (h1, .inl (T 0, 115, .inl (zA Z)))] s.heap := by rw [← hZ]; exact hP
        have hD : va_D A [(h0, .inr (2, [.ref h1, .int (iz (lk_vSet Z st vv ve))])), (h1, .inl (T 0, 115, .inl (zA Z)))] := by rw [← hZ]; exact hD
        have hZ : (Z : Nat → Int) = lk_zSet Z st vv := (by unfold lk_zSet; rw [if_neg (by omega)])
        have hP : va_P D vwCl [(h0, .inr (2, [.ref h1, .int (iz (lk_vSet Z st vv ve))])), (h1, .inl (T 0, 115, .inl (zA (lk_zSet Z st vv))))] s.heap := by rw [← hZ]; exact hP
        have hD : va_D A [(h0, .inr (2, [.ref h1, .int (iz (lk_vSet Z st vv ve))])), (h1, .inl (T 0, 115, .inl (zA (lk_zSet Z st vv))))] := by rw [← hZ]; exact hD
        exact W.iret hx hb hr (fun t ht hW => ⟨⟨_, (), rfl, (congrArg iz (by unfold lk_rSet; rw [if_neg (by omega)])), by show va_P _ _ _ t.heap; rw [ht]; exact hP⟩, hS.F ht⟩) hS.2.2 dX2_changeSetting_25
      · refine lv_iload_n hx hb dX2_changeSetting_14 rfl (lv_at hl 2 rfl) ?_
        refine va_gets (v := .ref mv) hx hb hM.1 hS hown w0 (fun _ h => h) dX2_changeSetting_15 ?_
        refine lv_iload_n hx hb dX2_changeSetting_18 rfl (lv_at hl 1 rfl) ?_
        refine va_ti (N := 10) (v := .int (iz (mvF st.toNat))) hx hb hM.2 hS (kz_tin (n := 10) (by omega) (by omega)).1 (congrArg (fun j => Value.int (iz (mvF j))) (kz_tin (n := 10) (by omega) (by omega)).2) dX2_changeSetting_19 ?_
        refine kz_icmp_le (tgt := 26) hx hb dX2_changeSetting_20 (by decide) (by omega) (by omega) (fun c20 => ?_) (fun c20 => ?_)
        · refine lv_aload_n hx hb dX2_changeSetting_26 rfl (lv_at hl 0 rfl) ?_
          refine lv_iload_n hx hb dX2_changeSetting_27 rfl (lv_at hl 1 rfl) ?_
          refine lv_iload_n hx hb dX2_changeSetting_28 rfl (lv_at hl 2 rfl) ?_
          refine kc_i (va_runV (As := [.int (iz (st)), .int (iz (vv))]) (rest := []) ⟨hx, hb, hml, hown, hts⟩ (c_X2_fitsTheRest l D T h0 h1 Z ve st vv hV (by omega) (by omega)) (cwV 2 hts gX2_changeSetting_X2_fitsTheRest rfl rfl rfl (by decide +kernel) ⟨Nat.le_of_ble_eq_true rfl, Nat.le_of_ble_eq_true rfl⟩) (kPc.v hK (va_recv hK.1 hP (ci := 2) (q0 := 0) rfl rfl) (kcut hP [0, 1] rfl)) rfl rfl hl.1 rfl (lv_room (Nat.le_of_ble_eq_true rfl)) dX2_changeSetting_29 ⟨Nat.zero_le _, Nat.zero_le _⟩) (fun r1 hr1 => ?_)
          obtain ⟨zr1, rfl, hbzr1, hqzr1⟩ := hr1
          refine kz_if_ne (tgt := 38) hx hb dX2_changeSetting_32 (by decide) (by omega) (fun c32 => ?_) (fun c32 => ?_)
          · have hyf : lk_fb Z st vv = true := by rw [lk_fb_iff, ← hqzr1]; omega
            refine lv_aload_n hx hb dX2_changeSetting_38 rfl (lv_at hl 0 rfl) ?_
            refine lv_dup hx hb dX2_changeSetting_39 rfl ?_
            refine va_get (D := D) (ci := 2) (C := RX2) (T := TX2) (N := 2) hx hb hts w2 hown hK.1 hP 0 rfl rfl 1 (by decide) w1 (fun _ h9 => h9) rfl dX2_changeSetting_40 ?_
            refine lv_iconst (v := iz (1)) hx hb dX2_changeSetting_43 (by decide) ?_
            refine kz_add hx hb dX2_changeSetting_44 ?_
            refine va_put (D := D) (ci := 2) (v := .int (iz (ve + 1))) (ty := .int) (C := RX2) (T := TX2) (N := 2) hx hb hts w2 tyX2 tyX2_ok nmX2 hown hK.1 hP hD hS 0 rfl rfl 1 (by decide) w1 (fun _ h9 => h9) rfl (by decide +kernel) rfl rfl (Nat.le_of_ble_eq_true rfl) dX2_changeSetting_45 (fun H locs hP hD hS => ?_)
            have hP : va_P D vwCl [(h0, .inr (2, [.ref h1, .int (iz (ve + 1))])), (h1, .inl (T 0, 115, .inl (zA Z)))] H := hP
            have hD : va_D A [(h0, .inr (2, [.ref h1, .int (iz (ve + 1))])), (h1, .inl (T 0, 115, .inl (zA Z)))] := hD
            refine lv_aload_n hx hb dX2_changeSetting_48 rfl (lv_at hl 0 rfl) ?_
            refine lv_iload_n hx hb dX2_changeSetting_49 rfl (lv_at hl 1 rfl) ?_
            refine kz_top (y := ((st.toNat : Nat) : Int)) (by omega) ?_
            refine lv_iload_n hx hb dX2_changeSetting_50 rfl (lv_at hl 2 rfl) ?_
            refine kc_wi (va_runV (As := [.int (iz (((st.toNat : Nat) : Int))), .int (iz (vv))]) (rest := []) ⟨hx, hb, hml, hown, hts⟩ (c_X2_replaced l D T H.size h0 h1 Z (ve + 1) st.toNat (by omega) vv) (cwV 2 hts gX2_changeSetting_X2_replaced rfl rfl rfl (by decide +kernel) ⟨Nat.le_of_ble_eq_true rfl, Nat.le_of_ble_eq_true rfl⟩) (kPc.v hK (va_recv hK.1 hP (ci := 2) (q0 := 0) rfl rfl) (kW.cut hP hD [0, 1] rfl (by rfl))) rfl rfl hl.1 rfl (lv_room (Nat.le_of_ble_eq_true rfl)) dX2_changeSetting_51 ⟨Nat.zero_le _, Nat.zero_le _⟩) hP hD hS hA [0, 1] rfl (fun _ => rfl) (fun r2 u H locs hr2 hP hD hS => ?_)
            have hP : va_P D vwCl [(h0, .inr (2, [.ref h1, .int (iz ((ve + 1)))])), (h1, .inl (T 0, 115, .inl (zA (zup Z st.toNat vv))))] H := hP
            have hD : va_D A [(h0, .inr (2, [.ref h1, .int (iz ((ve + 1)))])), (h1, .inl (T 0, 115, .inl (zA (zup Z st.toNat vv))))] := hD
            subst hr2
            have hZ : ((ve + 1) : Int) = lk_vSet Z st vv ve := (by unfold lk_vSet; rw [if_pos ⟨by omega, hyf⟩])
            have hP : va_P D vwCl [(h0, .inr (2, [.ref h1, .int (iz (lk_vSet Z st vv ve))])), (h1, .inl (T 0, 115, .inl (zA (zup Z st.toNat vv))))] H := by rw [← hZ]; exact hP
            have hD : va_D A [(h0, .inr (2, [.ref h1, .int (iz (lk_vSet Z st vv ve))])), (h1, .inl (T 0, 115, .inl (zA (zup Z st.toNat vv))))] := by rw [← hZ]; exact hD
            have hZ : (zup Z st.toNat vv : Nat → Int) = lk_zSet Z st vv := (by unfold lk_zSet; rw [if_pos ⟨by omega, hyf⟩])
            have hP : va_P D vwCl [(h0, .inr (2, [.ref h1, .int (iz (lk_vSet Z st vv ve))])), (h1, .inl (T 0, 115, .inl (zA (lk_zSet Z st vv))))] H := by rw [← hZ]; exact hP
            have hD : va_D A [(h0, .inr (2, [.ref h1, .int (iz (lk_vSet Z st vv ve))])), (h1, .inl (T 0, 115, .inl (zA (lk_zSet Z st vv))))] := by rw [← hZ]; exact hD
            exact W.iret hx hb hr (fun t ht hW => ⟨⟨_, (), rfl, (congrArg iz (by unfold lk_rSet; rw [if_pos (by omega), if_pos hyf])), by show va_P _ _ _ t.heap; rw [ht]; exact hP⟩, hS.F ht⟩) hS.2.2 dX2_changeSetting_54
          · have hnf : ¬ lk_fb Z st vv = true := fun q => by rw [lk_fb_iff, ← hqzr1] at q; omega
            refine lv_bipush (v := iz (-5)) hx hb dX2_changeSetting_35 (by decide) ?_
            have hZ : (ve : Int) = lk_vSet Z st vv ve := (by unfold lk_vSet; rw [if_neg (fun q => hnf q.2)])
            have hP : va_P D vwCl [(h0, .inr (2, [.ref h1, .int (iz (lk_vSet Z st vv ve))])), (h1, .inl (T 0, 115, .inl (zA Z)))] s.heap := by rw [← hZ]; exact hP
            have hD : va_D A [(h0, .inr (2, [.ref h1, .int (iz (lk_vSet Z st vv ve))])), (h1, .inl (T 0, 115, .inl (zA Z)))] := by rw [← hZ]; exact hD
            have hZ : (Z : Nat → Int) = lk_zSet Z st vv := (by unfold lk_zSet; rw [if_neg (fun q => hnf q.2)])
            have hP : va_P D vwCl [(h0, .inr (2, [.ref h1, .int (iz (lk_vSet Z st vv ve))])), (h1, .inl (T 0, 115, .inl (zA (lk_zSet Z st vv))))] s.heap := by rw [← hZ]; exact hP
            have hD : va_D A [(h0, .inr (2, [.ref h1, .int (iz (lk_vSet Z st vv ve))])), (h1, .inl (T 0, 115, .inl (zA (lk_zSet Z st vv))))] := by rw [← hZ]; exact hD
            exact W.iret hx hb hr (fun t ht hW => ⟨⟨_, (), rfl, (congrArg iz (by unfold lk_rSet; rw [if_pos (by omega), if_neg hnf])), by show va_P _ _ _ t.heap; rw [ht]; exact hP⟩, hS.F ht⟩) hS.2.2 dX2_changeSetting_37
        · refine lv_bipush (v := iz (-2)) hx hb dX2_changeSetting_23 (by decide) ?_
          have hZ : (ve : Int) = lk_vSet Z st vv ve := (by unfold lk_vSet; rw [if_neg (by omega)])
          have hP : va_P D vwCl [(h0, .inr (2, [.ref h1, .int (iz (lk_vSet Z st vv ve))])), (h1, .inl (T 0, 115, .inl (zA Z)))] s.heap := by rw [← hZ]; exact hP
          have hD : va_D A [(h0, .inr (2, [.ref h1, .int (iz (lk_vSet Z st vv ve))])), (h1, .inl (T 0, 115, .inl (zA Z)))] := by rw [← hZ]; exact hD
          have hZ : (Z : Nat → Int) = lk_zSet Z st vv := (by unfold lk_zSet; rw [if_neg (by omega)])
          have hP : va_P D vwCl [(h0, .inr (2, [.ref h1, .int (iz (lk_vSet Z st vv ve))])), (h1, .inl (T 0, 115, .inl (zA (lk_zSet Z st vv))))] s.heap := by rw [← hZ]; exact hP
          have hD : va_D A [(h0, .inr (2, [.ref h1, .int (iz (lk_vSet Z st vv ve))])), (h1, .inl (T 0, 115, .inl (zA (lk_zSet Z st vv))))] := by rw [← hZ]; exact hD
          exact W.iret hx hb hr (fun t ht hW => ⟨⟨_, (), rfl, (congrArg iz (by unfold lk_rSet; rw [if_neg (by omega)])), by show va_P _ _ _ t.heap; rw [ht]; exact hP⟩, hS.F ht⟩) hS.2.2 dX2_changeSetting_25
