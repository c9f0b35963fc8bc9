set_option maxHeartbeats 4000000 in
set_option maxRecDepth 100000 in
theorem c_X7_goes (l : Launch) (D : va_G) (T : Nat → ClassId) (sz : Nat) (mm : Nat) (nw : Nat) (pa : Nat) (kp : Int) (zl : Nat) (hd : Nat) (pd : Nat) (pn : Int) (at0 : Int) (os : Nat) (od : Int) (dn : Int) (pu : Int) (lo2 : Int) (sp2 : Int) (lv2 : Int) (wa : Int) (mt : Nat) (cn : Nat) (Z : Nat → Int) (h : Nat) (hh24 : h < 24) (lev : Int) (hle : 0 ≤ lev ∧ lev ≤ 10000) (uu : Int) (hu : -30 ≤ uu ∧ uu ≤ 30) (hV : VL Z) : Met l yX7_goes wsX7_goes ({ frames := 0, cells := 0, slots := 0, locals := 0 }) (kPc D T [.ref mm, .int (iz (((h : Nat) : Int))), .int (iz (lev)), .int (iz (uu))] (kW D sz [(mm, .inr (7, [.ref nw, .ref pa, .int (iz (kp)), .ref zl, .ref hd, .ref pd, .int (iz (pn)), .int (iz (at0)), .ref os, .int (iz (od)), .int (iz (dn)), .int (iz (pu)), .int (iz (lo2)), .int (iz (sp2)), .int (iz (lv2)), .int (iz (wa)), .ref mt, .ref cn])), (nw, .inl (T 0, 115, .inl (zA (mz Z))))])) (va_Qv (fun (u : Unit) => True) (fun (u : Unit) (t : State) => va_P D vwCl [(mm, .inr (7, [.ref nw, .ref pa, .int (iz (kp)), .ref zl, .ref hd, .ref pd, .int (iz (pn)), .int (iz (at0)), .ref os, .int (iz (od)), .int (iz (hr_dn Z h lev uu)), .int (iz (lk_pump uu)), .int (iz (lk_loss Z (lk_pump uu))), .int (iz (hr_sp Z h lev uu)), .int (iz (hr_lv Z h lev uu)), .int (iz (lk_want Z uu)), .ref mt, .ref cn])), (nw, .inl (T 0, 115, .inl (zA (mz Z))))] t.heap) (va_A [(mm, .inr (7, [.ref nw, .ref pa, .int (iz (kp)), .ref zl, .ref hd, .ref pd, .int (iz (pn)), .int (iz (at0)), .ref os, .int (iz (od)), .int (iz (dn)), .int (iz (pu)), .int (iz (lo2)), .int (iz (sp2)), .int (iz (lv2)), .int (iz (wa)), .ref mt, .ref cn])), (nw, .inl (T 0, 115, .inl (zA (mz Z))))] sz)) 0 0 (va_A [(mm, .inr (7, [.ref nw, .ref pa, .int (iz (kp)), .ref zl, .ref hd, .ref pd, .int (iz (pn)), .int (iz (at0)), .ref os, .int (iz (od)), .int (iz (dn)), .int (iz (pu)), .int (iz (lo2)), .int (iz (sp2)), .int (iz (lv2)), .int (iz (wa)), .ref mt, .ref cn])), (nw, .inl (T 0, 115, .inl (zA (mz Z))))] sz) := by
  refine Met.ofW (cc := cX7_goes) (maxL := 5) (ret := none) (by decide) rfl ?_
  intro p e s m args below meth c s₁ B hml hv
  obtain ⟨rfl, hK, hsz, hP, hD0⟩ := hv
  have hx := B.exec
  have hb := B.bytes
  have hr := B.returns
  have hts := atoms_spec (ws := wsX7_goes) B.pre
  have hown : s.vm.findClass RX7 = some m.cls := findClass_of_methodNamed B.named
  have hlocks := B.notSynchronized
  have w0 := hts (.fieldLink RX7 54 "LakePlantModel" "pumped" "I") (List.mem_of_getElem? (i := 1) rfl)
  have w1 : ∀ w ∈ wsX70, w ∈ wsX7_goes := by decide +kernel
  have w2 := hts (.fieldLink RX7 7 "LakePlantModel" "now" "[I") (List.mem_of_getElem? (i := 2) rfl)
  have w3 := hts (.fieldLink RX7 57 "LakePlantModel" "lost" "I") (List.mem_of_getElem? (i := 3) rfl)
  have w4 := hts (.fieldLink RX7 60 "LakePlantModel" "level" "I") (List.mem_of_getElem? (i := 4) rfl)
  have w5 := hts (.fieldLink RX7 63 "LakePlantModel" "wanted" "I") (List.mem_of_getElem? (i := 5) rfl)
  have w6 := hts (.fieldLink RX7 66 "LakePlantModel" "down" "I") (List.mem_of_getElem? (i := 6) rfl)
  have w7 := hts (.fieldLink RX7 69 "LakePlantModel" "spilled" "I") (List.mem_of_getElem? (i := 7) rfl)
  subst hsz
  have hD := hD0.self (sz := s.heap.size)
  generalize hAe : va_A [(mm, .inr (7, [.ref nw, .ref pa, .int (iz (kp)), .ref zl, .ref hd, .ref pd, .int (iz (pn)), .int (iz (at0)), .ref os, .int (iz (od)), .int (iz (dn)), .int (iz (pu)), .int (iz (lo2)), .int (iz (sp2)), .int (iz (lv2)), .int (iz (wa)), .ref mt, .ref cn])), (nw, .inl (T 0, 115, .inl (zA (mz Z))))] s.heap.size = A at hD ⊢
  have hA : ∀ q : Nat, s.heap.size ≤ q → A q := fun q h => by rw [← hAe]; exact Or.inr h
  have hS : va_S A s.heap s.heap [] := va_S.rf
  have hP : va_P D vwCl [(mm, .inr (7, [.ref nw, .ref pa, .int (iz (kp)), .ref zl, .ref hd, .ref pd, .int (iz (pn)), .int (iz (at0)), .ref os, .int (iz (od)), .int (iz (dn)), .int (iz (pu)), .int (iz (lo2)), .int (iz (sp2)), .int (iz (lv2)), .int (iz (wa)), .ref mt, .ref cn])), (nw, .inl (T 0, 115, .inl (zA (mz Z))))] s.heap := hP
  have hl := lv_entry ([.ref mm, .int (iz (((h : Nat) : Int))), .int (iz (lev)), .int (iz (uu))]) (n := 5) (Nat.le_of_ble_eq_true rfl)
  rw [lg_entry_eq]
  generalize (lg_sl ([.ref mm, .int (iz (((h : Nat) : Int))), .int (iz (lev)), .int (iz (uu))]) ++ List.replicate (5 - (lg_sl ([.ref mm, .int (iz (((h : Nat) : Int))), .int (iz (lev)), .int (iz (uu))])).length) Slot.unset).toArray = ls at hl ⊢
  have hl : lv_has ls 5 [(0, .ref mm), (1, .int (iz (((h : Nat) : Int)))), (2, .int (iz (lev))), (3, .int (iz (uu)))] := hl
  have hs := hV.1
  unfold VS at hs
  have hg := hr_rng hV hh24 hle hu
  have hpr := lk_pump_rng hu
  have hlr := lk_loss_rng hV hpr
  have hzm := zmul hpr hs.2.2.1
  have hin := (hV.2.1 h hh24).2.1
  have hwr := lk_want_rng hV hu
  have edn : hr_dn Z h lev uu = lk_down Z (lk_fill Z h lev (lk_pump uu)) (lk_want Z uu) := rfl
  have esp : hr_sp Z h lev uu = lk_spill Z (lk_fill Z h lev (lk_pump uu) - hr_dn Z h lev uu) := rfl
  have efl : lk_fill Z h lev (lk_pump uu) = lev + lk_pump uu - lk_loss Z (lk_pump uu) + Z (34 + h) := rfl
  have elv : hr_lv Z h lev uu = lk_fill Z h lev (lk_pump uu) - hr_dn Z h lev uu - hr_sp Z h lev uu := rfl
  refine lv_aload_n hx hb dX7_goes_0 rfl (lv_at hl 0 rfl) ?_
  refine kz_join (pcj := 11) (P := fun v1 => v1 = lk_pump uu) (rest := [.ref mm]) (ls := ls) (fun J11 => ?_) (fun v1 ev1 => ?_)
  · refine lv_iload_n hx hb dX7_goes_1 rfl (lv_at hl 3 rfl) ?_
    refine kz_if_ge (tgt := 10) hx hb dX7_goes_2 (by decide) (by omega) (fun c2 => ?_) (fun c2 => ?_)
    · refine lv_iconst (v := iz (0)) hx hb dX7_goes_10 (by decide) ?_
      exact J11 (0) (by unfold lk_pump; omega)
    · refine lv_iload_n hx hb dX7_goes_5 rfl (lv_at hl 3 rfl) ?_
      refine kz_neg hx hb dX7_goes_6 ?_
      refine lv_goto (tgt := 11) hx hb dX7_goes_7 (by decide) ?_
      exact J11 (-uu) (by unfold lk_pump; omega)
  · refine kz_top (y := lk_pump uu) ev1 ?_
    refine va_put (D := D) (ci := 7) (v := .int (iz (lk_pump uu))) (ty := .int) (C := RX7) (T := TX7) (N := 18) hx hb hts w1 tyX7 tyX7_ok nmX7 hown hK.1 hP hD hS 0 rfl rfl 11 (by decide) w0 (fun _ h9 => h9) rfl (by decide +kernel) rfl rfl (Nat.le_of_ble_eq_true rfl) dX7_goes_11 (fun H locs hP hD hS => ?_)
    have hP : va_P D vwCl [(mm, .inr (7, [.ref nw, .ref pa, .int (iz (kp)), .ref zl, .ref hd, .ref pd, .int (iz (pn)), .int (iz (at0)), .ref os, .int (iz (od)), .int (iz (dn)), .int (iz (lk_pump uu)), .int (iz (lo2)), .int (iz (sp2)), .int (iz (lv2)), .int (iz (wa)), .ref mt, .ref cn])), (nw, .inl (T 0, 115, .inl (zA (mz Z))))] H := hP
    have hD : va_D A [(mm, .inr (7, [.ref nw, .ref pa, .int (iz (kp)), .ref zl, .ref hd, .ref pd, .int (iz (pn)), .int (iz (at0)), .ref os, .int (iz (od)), .int (iz (dn)), .int (iz (lk_pump uu)), .int (iz (lo2)), .int (iz (sp2)), .int (iz (lv2)), .int (iz (wa)), .ref mt, .ref cn])), (nw, .inl (T 0, 115, .inl (zA (mz Z))))] := hD
    refine lv_aload_n hx hb dX7_goes_14 rfl (lv_at hl 0 rfl) ?_
    refine lv_aload_n hx hb dX7_goes_15 rfl (lv_at hl 0 rfl) ?_
    refine va_get (D := D) (ci := 7) (C := RX7) (T := TX7) (N := 18) hx hb hts w1 hown hK.1 hP 0 rfl rfl 11 (by decide) w0 (fun _ h9 => h9) rfl dX7_goes_16 ?_
    refine lv_aload_n hx hb dX7_goes_19 rfl (lv_at hl 0 rfl) ?_
    refine va_get (D := D) (ci := 7) (C := RX7) (T := TX7) (N := 18) hx hb hts w1 hown hK.1 hP 0 rfl rfl 0 (by decide) w2 (fun _ h9 => h9) rfl dX7_goes_20 ?_
    refine lv_iconst (v := iz (2)) hx hb dX7_goes_23 (by decide) ?_
    refine kz_iald hx hb hK hP (1) rfl (2) (by omega) (by omega) (by omega) dX7_goes_24 ?_
    refine kz_top (y := Z 2) (mz_lo (by omega)) ?_
    refine kz_mul hx hb dX7_goes_25 ?_
    refine lv_bipush (v := iz (99)) hx hb dX7_goes_26 (by decide) ?_
    refine kz_add hx hb dX7_goes_28 ?_
    refine lv_bipush (v := iz (100)) hx hb dX7_goes_29 (by decide) ?_
    refine kz_div hx hb (by omega) (by omega) dX7_goes_31 ?_
    refine kz_top (y := lk_loss Z (lk_pump uu)) rfl ?_
    refine va_put (D := D) (ci := 7) (v := .int (iz (lk_loss Z (lk_pump uu)))) (ty := .int) (C := RX7) (T := TX7) (N := 18) hx hb hts w1 tyX7 tyX7_ok nmX7 hown hK.1 hP hD hS 0 rfl rfl 12 (by decide) w3 (fun _ h9 => h9) rfl (by decide +kernel) rfl rfl (Nat.le_of_ble_eq_true rfl) dX7_goes_32 (fun H locs hP hD hS => ?_)
    have hP : va_P D vwCl [(mm, .inr (7, [.ref nw, .ref pa, .int (iz (kp)), .ref zl, .ref hd, .ref pd, .int (iz (pn)), .int (iz (at0)), .ref os, .int (iz (od)), .int (iz (dn)), .int (iz (lk_pump uu)), .int (iz (lk_loss Z (lk_pump uu))), .int (iz (sp2)), .int (iz (lv2)), .int (iz (wa)), .ref mt, .ref cn])), (nw, .inl (T 0, 115, .inl (zA (mz Z))))] H := hP
    have hD : va_D A [(mm, .inr (7, [.ref nw, .ref pa, .int (iz (kp)), .ref zl, .ref hd, .ref pd, .int (iz (pn)), .int (iz (at0)), .ref os, .int (iz (od)), .int (iz (dn)), .int (iz (lk_pump uu)), .int (iz (lk_loss Z (lk_pump uu))), .int (iz (sp2)), .int (iz (lv2)), .int (iz (wa)), .ref mt, .ref cn])), (nw, .inl (T 0, 115, .inl (zA (mz Z))))] := hD
    refine lv_aload_n hx hb dX7_goes_35 rfl (lv_at hl 0 rfl) ?_
    refine lv_iload_n hx hb dX7_goes_36 rfl (lv_at hl 2 rfl) ?_
    refine lv_aload_n hx hb dX7_goes_37 rfl (lv_at hl 0 rfl) ?_
    refine va_get (D := D) (ci := 7) (C := RX7) (T := TX7) (N := 18) hx hb hts w1 hown hK.1 hP 0 rfl rfl 11 (by decide) w0 (fun _ h9 => h9) rfl dX7_goes_38 ?_
    refine kz_add hx hb dX7_goes_41 ?_
    refine lv_aload_n hx hb dX7_goes_42 rfl (lv_at hl 0 rfl) ?_
    refine va_get (D := D) (ci := 7) (C := RX7) (T := TX7) (N := 18) hx hb hts w1 hown hK.1 hP 0 rfl rfl 12 (by decide) w3 (fun _ h9 => h9) rfl dX7_goes_43 ?_
    refine kz_sub hx hb dX7_goes_46 ?_
    refine lv_aload_n hx hb dX7_goes_47 rfl (lv_at hl 0 rfl) ?_
    refine va_get (D := D) (ci := 7) (C := RX7) (T := TX7) (N := 18) hx hb hts w1 hown hK.1 hP 0 rfl rfl 0 (by decide) w2 (fun _ h9 => h9) rfl dX7_goes_48 ?_
    refine lv_bipush (v := iz (34)) hx hb dX7_goes_51 (by decide) ?_
    refine lv_iload_n hx hb dX7_goes_53 rfl (lv_at hl 1 rfl) ?_
    refine kz_add hx hb dX7_goes_54 ?_
    refine kz_iald hx hb hK hP (1) rfl (34 + h) (by omega) (by omega) (by omega) dX7_goes_55 ?_
    refine kz_top (y := Z (34 + h)) (mz_lo (by omega)) ?_
    refine kz_add hx hb dX7_goes_56 ?_
    refine kz_top (y := lk_fill Z h lev (lk_pump uu)) rfl ?_
    refine va_put (D := D) (ci := 7) (v := .int (iz (lk_fill Z h lev (lk_pump uu)))) (ty := .int) (C := RX7) (T := TX7) (N := 18) hx hb hts w1 tyX7 tyX7_ok nmX7 hown hK.1 hP hD hS 0 rfl rfl 14 (by decide) w4 (fun _ h9 => h9) rfl (by decide +kernel) rfl rfl (Nat.le_of_ble_eq_true rfl) dX7_goes_57 (fun H locs hP hD hS => ?_)
    have hP : va_P D vwCl [(mm, .inr (7, [.ref nw, .ref pa, .int (iz (kp)), .ref zl, .ref hd, .ref pd, .int (iz (pn)), .int (iz (at0)), .ref os, .int (iz (od)), .int (iz (dn)), .int (iz (lk_pump uu)), .int (iz (lk_loss Z (lk_pump uu))), .int (iz (sp2)), .int (iz (lk_fill Z h lev (lk_pump uu))), .int (iz (wa)), .ref mt, .ref cn])), (nw, .inl (T 0, 115, .inl (zA (mz Z))))] H := hP
    have hD : va_D A [(mm, .inr (7, [.ref nw, .ref pa, .int (iz (kp)), .ref zl, .ref hd, .ref pd, .int (iz (pn)), .int (iz (at0)), .ref os, .int (iz (od)), .int (iz (dn)), .int (iz (lk_pump uu)), .int (iz (lk_loss Z (lk_pump uu))), .int (iz (sp2)), .int (iz (lk_fill Z h lev (lk_pump uu))), .int (iz (wa)), .ref mt, .ref cn])), (nw, .inl (T 0, 115, .inl (zA (mz Z))))] := hD
    refine lv_aload_n hx hb dX7_goes_60 rfl (lv_at hl 0 rfl) ?_
    refine kz_join (pcj := 81) (P := fun v2 => v2 = lk_want Z uu) (rest := [.ref mm]) (ls := ls) (fun J81 => ?_) (fun v2 ev2 => ?_)
    · refine lv_iload_n hx hb dX7_goes_61 rfl (lv_at hl 3 rfl) ?_
      refine lv_aload_n hx hb dX7_goes_62 rfl (lv_at hl 0 rfl) ?_
      refine va_get (D := D) (ci := 7) (C := RX7) (T := TX7) (N := 18) hx hb hts w1 hown hK.1 hP 0 rfl rfl 0 (by decide) w2 (fun _ h9 => h9) rfl dX7_goes_63 ?_
      refine lv_iconst (v := iz (4)) hx hb dX7_goes_66 (by decide) ?_
      refine kz_iald hx hb hK hP (1) rfl (4) (by omega) (by omega) (by omega) dX7_goes_67 ?_
      refine kz_top (y := Z 4) (mz_lo (by omega)) ?_
      refine kz_icmp_le (tgt := 75) hx hb dX7_goes_68 (by decide) (by omega) (by omega) (fun c68 => ?_) (fun c68 => ?_)
      · refine lv_aload_n hx hb dX7_goes_75 rfl (lv_at hl 0 rfl) ?_
        refine va_get (D := D) (ci := 7) (C := RX7) (T := TX7) (N := 18) hx hb hts w1 hown hK.1 hP 0 rfl rfl 0 (by decide) w2 (fun _ h9 => h9) rfl dX7_goes_76 ?_
        refine lv_iconst (v := iz (4)) hx hb dX7_goes_79 (by decide) ?_
        refine kz_iald hx hb hK hP (1) rfl (4) (by omega) (by omega) (by omega) dX7_goes_80 ?_
        refine kz_top (y := Z 4) (mz_lo (by omega)) ?_
        exact J81 (Z 4) (by unfold lk_want; omega)
      · refine lv_iload_n hx hb dX7_goes_71 rfl (lv_at hl 3 rfl) ?_
        refine lv_goto (tgt := 81) hx hb dX7_goes_72 (by decide) ?_
        exact J81 (uu) (by unfold lk_want; omega)
    · refine kz_top (y := lk_want Z uu) ev2 ?_
      refine va_put (D := D) (ci := 7) (v := .int (iz (lk_want Z uu))) (ty := .int) (C := RX7) (T := TX7) (N := 18) hx hb hts w1 tyX7 tyX7_ok nmX7 hown hK.1 hP hD hS 0 rfl rfl 15 (by decide) w5 (fun _ h9 => h9) rfl (by decide +kernel) rfl rfl (Nat.le_of_ble_eq_true rfl) dX7_goes_81 (fun H locs hP hD hS => ?_)
      have hP : va_P D vwCl [(mm, .inr (7, [.ref nw, .ref pa, .int (iz (kp)), .ref zl, .ref hd, .ref pd, .int (iz (pn)), .int (iz (at0)), .ref os, .int (iz (od)), .int (iz (dn)), .int (iz (lk_pump uu)), .int (iz (lk_loss Z (lk_pump uu))), .int (iz (sp2)), .int (iz (lk_fill Z h lev (lk_pump uu))), .int (iz (lk_want Z uu)), .ref mt, .ref cn])), (nw, .inl (T 0, 115, .inl (zA (mz Z))))] H := hP
      have hD : va_D A [(mm, .inr (7, [.ref nw, .ref pa, .int (iz (kp)), .ref zl, .ref hd, .ref pd, .int (iz (pn)), .int (iz (at0)), .ref os, .int (iz (od)), .int (iz (dn)), .int (iz (lk_pump uu)), .int (iz (lk_loss Z (lk_pump uu))), .int (iz (sp2)), .int (iz (lk_fill Z h lev (lk_pump uu))), .int (iz (lk_want Z uu)), .ref mt, .ref cn])), (nw, .inl (T 0, 115, .inl (zA (mz Z))))] := hD
      refine kz_join (pcj := 112) (P := fun v3 => v3 = max 0 (lk_fill Z h lev (lk_pump uu) - Z 5)) (rest := []) (ls := ls) (fun J112 => ?_) (fun v3 ev3 => ?_)
      · refine lv_aload_n hx hb dX7_goes_84 rfl (lv_at hl 0 rfl) ?_
        refine va_get (D := D) (ci := 7) (C := RX7) (T := TX7) (N := 18) hx hb hts w1 hown hK.1 hP 0 rfl rfl 14 (by decide) w4 (fun _ h9 => h9) rfl dX7_goes_85 ?_
        refine lv_aload_n hx hb dX7_goes_88 rfl (lv_at hl 0 rfl) ?_
        refine va_get (D := D) (ci := 7) (C := RX7) (T := TX7) (N := 18) hx hb hts w1 hown hK.1 hP 0 rfl rfl 0 (by decide) w2 (fun _ h9 => h9) rfl dX7_goes_89 ?_
        refine lv_iconst (v := iz (5)) hx hb dX7_goes_92 (by decide) ?_
        refine kz_iald hx hb hK hP (1) rfl (5) (by omega) (by omega) (by omega) dX7_goes_93 ?_
        refine kz_top (y := Z 5) (mz_lo (by omega)) ?_
        refine kz_icmp_le (tgt := 111) hx hb dX7_goes_94 (by decide) (by omega) (by omega) (fun c94 => ?_) (fun c94 => ?_)
        · refine lv_iconst (v := iz (0)) hx hb dX7_goes_111 (by decide) ?_
          exact J112 (0) (by omega)
        · refine lv_aload_n hx hb dX7_goes_97 rfl (lv_at hl 0 rfl) ?_
          refine va_get (D := D) (ci := 7) (C := RX7) (T := TX7) (N := 18) hx hb hts w1 hown hK.1 hP 0 rfl rfl 14 (by decide) w4 (fun _ h9 => h9) rfl dX7_goes_98 ?_
          refine lv_aload_n hx hb dX7_goes_101 rfl (lv_at hl 0 rfl) ?_
          refine va_get (D := D) (ci := 7) (C := RX7) (T := TX7) (N := 18) hx hb hts w1 hown hK.1 hP 0 rfl rfl 0 (by decide) w2 (fun _ h9 => h9) rfl dX7_goes_102 ?_
          refine lv_iconst (v := iz (5)) hx hb dX7_goes_105 (by decide) ?_
          refine kz_iald hx hb hK hP (1) rfl (5) (by omega) (by omega) (by omega) dX7_goes_106 ?_
          refine kz_top (y := Z 5) (mz_lo (by omega)) ?_
          refine kz_sub hx hb dX7_goes_107 ?_
          refine lv_goto (tgt := 112) hx hb dX7_goes_108 (by decide) ?_
          exact J112 ((lk_fill Z h lev (lk_pump uu)) - (Z 5)) (by omega)
      · refine kz_top (y := max 0 (lk_fill Z h lev (lk_pump uu) - Z 5)) ev3 ?_
        refine lv_istore (lv' := [(4, .int (iz (max 0 (lk_fill Z h lev (lk_pump uu) - Z 5)))), (0, .ref mm), (1, .int (iz (((h : Nat) : Int)))), (2, .int (iz (lev))), (3, .int (iz (uu)))]) hx hb dX7_goes_112 hl (by decide) rfl (fun ls hl => ?_)
        refine lv_aload_n hx hb dX7_goes_114 rfl (lv_at hl 1 rfl) ?_
        refine kz_join (pcj := 133) (P := fun v4 => v4 = hr_dn Z h lev uu) (rest := [.ref mm]) (ls := ls) (fun J133 => ?_) (fun v4 ev4 => ?_)
        · refine lv_aload_n hx hb dX7_goes_115 rfl (lv_at hl 1 rfl) ?_
          refine va_get (D := D) (ci := 7) (C := RX7) (T := TX7) (N := 18) hx hb hts w1 hown hK.1 hP 0 rfl rfl 15 (by decide) w5 (fun _ h9 => h9) rfl dX7_goes_116 ?_
          refine lv_iload hx hb dX7_goes_119 (lv_at hl 0 rfl) ?_
          refine kz_icmp_ge (tgt := 131) hx hb dX7_goes_121 (by decide) (by omega) (by omega) (fun c121 => ?_) (fun c121 => ?_)
          · refine lv_iload hx hb dX7_goes_131 (lv_at hl 0 rfl) ?_
            exact J133 (max 0 (lk_fill Z h lev (lk_pump uu) - Z 5)) (by rw [edn]; unfold lk_down; omega)
          · refine lv_aload_n hx hb dX7_goes_124 rfl (lv_at hl 1 rfl) ?_
            refine va_get (D := D) (ci := 7) (C := RX7) (T := TX7) (N := 18) hx hb hts w1 hown hK.1 hP 0 rfl rfl 15 (by decide) w5 (fun _ h9 => h9) rfl dX7_goes_125 ?_
            refine lv_goto (tgt := 133) hx hb dX7_goes_128 (by decide) ?_
            exact J133 (lk_want Z uu) (by rw [edn]; unfold lk_down; omega)
        · refine kz_top (y := hr_dn Z h lev uu) ev4 ?_
          refine va_put (D := D) (ci := 7) (v := .int (iz (hr_dn Z h lev uu))) (ty := .int) (C := RX7) (T := TX7) (N := 18) hx hb hts w1 tyX7 tyX7_ok nmX7 hown hK.1 hP hD hS 0 rfl rfl 10 (by decide) w6 (fun _ h9 => h9) rfl (by decide +kernel) rfl rfl (Nat.le_of_ble_eq_true rfl) dX7_goes_133 (fun H locs hP hD hS => ?_)
          have hP : va_P D vwCl [(mm, .inr (7, [.ref nw, .ref pa, .int (iz (kp)), .ref zl, .ref hd, .ref pd, .int (iz (pn)), .int (iz (at0)), .ref os, .int (iz (od)), .int (iz (hr_dn Z h lev uu)), .int (iz (lk_pump uu)), .int (iz (lk_loss Z (lk_pump uu))), .int (iz (sp2)), .int (iz (lk_fill Z h lev (lk_pump uu))), .int (iz (lk_want Z uu)), .ref mt, .ref cn])), (nw, .inl (T 0, 115, .inl (zA (mz Z))))] H := hP
          have hD : va_D A [(mm, .inr (7, [.ref nw, .ref pa, .int (iz (kp)), .ref zl, .ref hd, .ref pd, .int (iz (pn)), .int (iz (at0)), .ref os, .int (iz (od)), .int (iz (hr_dn Z h lev uu)), .int (iz (lk_pump uu)), .int (iz (lk_loss Z (lk_pump uu))), .int (iz (sp2)), .int (iz (lk_fill Z h lev (lk_pump uu))), .int (iz (lk_want Z uu)), .ref mt, .ref cn])), (nw, .inl (T 0, 115, .inl (zA (mz Z))))] := hD
          refine lv_aload_n hx hb dX7_goes_136 rfl (lv_at hl 1 rfl) ?_
          refine lv_dup hx hb dX7_goes_137 rfl ?_
          refine va_get (D := D) (ci := 7) (C := RX7) (T := TX7) (N := 18) hx hb hts w1 hown hK.1 hP 0 rfl rfl 14 (by decide) w4 (fun _ h9 => h9) rfl dX7_goes_138 ?_
          refine lv_aload_n hx hb dX7_goes_141 rfl (lv_at hl 1 rfl) ?_
          refine va_get (D := D) (ci := 7) (C := RX7) (T := TX7) (N := 18) hx hb hts w1 hown hK.1 hP 0 rfl rfl 10 (by decide) w6 (fun _ h9 => h9) rfl dX7_goes_142 ?_
          refine kz_sub hx hb dX7_goes_145 ?_
          refine va_put (D := D) (ci := 7) (v := .int (iz ((lk_fill Z h lev (lk_pump uu)) - (hr_dn Z h lev uu)))) (ty := .int) (C := RX7) (T := TX7) (N := 18) hx hb hts w1 tyX7 tyX7_ok nmX7 hown hK.1 hP hD hS 0 rfl rfl 14 (by decide) w4 (fun _ h9 => h9) rfl (by decide +kernel) rfl rfl (Nat.le_of_ble_eq_true rfl) dX7_goes_146 (fun H locs hP hD hS => ?_)
          have hP : va_P D vwCl [(mm, .inr (7, [.ref nw, .ref pa, .int (iz (kp)), .ref zl, .ref hd, .ref pd, .int (iz (pn)), .int (iz (at0)), .ref os, .int (iz (od)), .int (iz (hr_dn Z h lev uu)), .int (iz (lk_pump uu)), .int (iz (lk_loss Z (lk_pump uu))), .int (iz (sp2)), .int (iz ((lk_fill Z h lev (lk_pump uu)) - (hr_dn Z h lev uu))), .int (iz (lk_want Z uu)), .ref mt, .ref cn])), (nw, .inl (T 0, 115, .inl (zA (mz Z))))] H := hP
          have hD : va_D A [(mm, .inr (7, [.ref nw, .ref pa, .int (iz (kp)), .ref zl, .ref hd, .ref pd, .int (iz (pn)), .int (iz (at0)), .ref os, .int (iz (od)), .int (iz (hr_dn Z h lev uu)), .int (iz (lk_pump uu)), .int (iz (lk_loss Z (lk_pump uu))), .int (iz (sp2)), .int (iz ((lk_fill Z h lev (lk_pump uu)) - (hr_dn Z h lev uu))), .int (iz (lk_want Z uu)), .ref mt, .ref cn])), (nw, .inl (T 0, 115, .inl (zA (mz Z))))] := hD
          refine lv_aload_n hx hb dX7_goes_149 rfl (lv_at hl 1 rfl) ?_
          refine kz_join (pcj := 180) (P := fun v5 => v5 = hr_sp Z h lev uu) (rest := [.ref mm]) (ls := ls) (fun J180 => ?_) (fun v5 ev5 => ?_)
          · refine lv_aload_n hx hb dX7_goes_150 rfl (lv_at hl 1 rfl) ?_
            refine va_get (D := D) (ci := 7) (C := RX7) (T := TX7) (N := 18) hx hb hts w1 hown hK.1 hP 0 rfl rfl 14 (by decide) w4 (fun _ h9 => h9) rfl dX7_goes_151 ?_
            refine lv_aload_n hx hb dX7_goes_154 rfl (lv_at hl 1 rfl) ?_
            refine va_get (D := D) (ci := 7) (C := RX7) (T := TX7) (N := 18) hx hb hts w1 hown hK.1 hP 0 rfl rfl 0 (by decide) w2 (fun _ h9 => h9) rfl dX7_goes_155 ?_
            refine lv_bipush (v := iz (6)) hx hb dX7_goes_158 (by decide) ?_
            refine kz_iald hx hb hK hP (1) rfl (6) (by omega) (by omega) (by omega) dX7_goes_160 ?_
            refine kz_top (y := Z 6) (mz_lo (by omega)) ?_
            refine kz_icmp_le (tgt := 179) hx hb dX7_goes_161 (by decide) (by omega) (by omega) (fun c161 => ?_) (fun c161 => ?_)
            · refine lv_iconst (v := iz (0)) hx hb dX7_goes_179 (by decide) ?_
              exact J180 (0) (by rw [esp]; unfold lk_spill; omega)
            · refine lv_aload_n hx hb dX7_goes_164 rfl (lv_at hl 1 rfl) ?_
              refine va_get (D := D) (ci := 7) (C := RX7) (T := TX7) (N := 18) hx hb hts w1 hown hK.1 hP 0 rfl rfl 14 (by decide) w4 (fun _ h9 => h9) rfl dX7_goes_165 ?_
              refine lv_aload_n hx hb dX7_goes_168 rfl (lv_at hl 1 rfl) ?_
              refine va_get (D := D) (ci := 7) (C := RX7) (T := TX7) (N := 18) hx hb hts w1 hown hK.1 hP 0 rfl rfl 0 (by decide) w2 (fun _ h9 => h9) rfl dX7_goes_169 ?_
              refine lv_bipush (v := iz (6)) hx hb dX7_goes_172 (by decide) ?_
              refine kz_iald hx hb hK hP (1) rfl (6) (by omega) (by omega) (by omega) dX7_goes_174 ?_
              refine kz_top (y := Z 6) (mz_lo (by omega)) ?_
              refine kz_sub hx hb dX7_goes_175 ?_
              refine lv_goto (tgt := 180) hx hb dX7_goes_176 (by decide) ?_
              exact J180 (((lk_fill Z h lev (lk_pump uu)) - (hr_dn Z h lev uu)) - (Z 6)) (by rw [esp]; unfold lk_spill; omega)
          · refine kz_top (y := hr_sp Z h lev uu) ev5 ?_
            refine va_put (D := D) (ci := 7) (v := .int (iz (hr_sp Z h lev uu))) (ty := .int) (C := RX7) (T := TX7) (N := 18) hx hb hts w1 tyX7 tyX7_ok nmX7 hown hK.1 hP hD hS 0 rfl rfl 13 (by decide) w7 (fun _ h9 => h9) rfl (by decide +kernel) rfl rfl (Nat.le_of_ble_eq_true rfl) dX7_goes_180 (fun H locs hP hD hS => ?_)
            have hP : va_P D vwCl [(mm, .inr (7, [.ref nw, .ref pa, .int (iz (kp)), .ref zl, .ref hd, .ref pd, .int (iz (pn)), .int (iz (at0)), .ref os, .int (iz (od)), .int (iz (hr_dn Z h lev uu)), .int (iz (lk_pump uu)), .int (iz (lk_loss Z (lk_pump uu))), .int (iz (hr_sp Z h lev uu)), .int (iz ((lk_fill Z h lev (lk_pump uu)) - (hr_dn Z h lev uu))), .int (iz (lk_want Z uu)), .ref mt, .ref cn])), (nw, .inl (T 0, 115, .inl (zA (mz Z))))] H := hP
            have hD : va_D A [(mm, .inr (7, [.ref nw, .ref pa, .int (iz (kp)), .ref zl, .ref hd, .ref pd, .int (iz (pn)), .int (iz (at0)), .ref os, .int (iz (od)), .int (iz (hr_dn Z h lev uu)), .int (iz (lk_pump uu)), .int (iz (lk_loss Z (lk_pump uu))), .int (iz (hr_sp Z h lev uu)), .int (iz ((lk_fill Z h lev (lk_pump uu)) - (hr_dn Z h lev uu))), .int (iz (lk_want Z uu)), .ref mt, .ref cn])), (nw, .inl (T 0, 115, .inl (zA (mz Z))))] := hD
            refine lv_aload_n hx hb dX7_goes_183 rfl (lv_at hl 1 rfl) ?_
            refine lv_dup hx hb dX7_goes_184 rfl ?_
            refine va_get (D := D) (ci := 7) (C := RX7) (T := TX7) (N := 18) hx hb hts w1 hown hK.1 hP 0 rfl rfl 14 (by decide) w4 (fun _ h9 => h9) rfl dX7_goes_185 ?_
            refine lv_aload_n hx hb dX7_goes_188 rfl (lv_at hl 1 rfl) ?_
            refine va_get (D := D) (ci := 7) (C := RX7) (T := TX7) (N := 18) hx hb hts w1 hown hK.1 hP 0 rfl rfl 13 (by decide) w7 (fun _ h9 => h9) rfl dX7_goes_189 ?_
            refine kz_sub hx hb dX7_goes_192 ?_
            refine va_put (D := D) (ci := 7) (v := .int (iz (((lk_fill Z h lev (lk_pump uu)) - (hr_dn Z h lev uu)) - (hr_sp Z h lev uu)))) (ty := .int) (C := RX7) (T := TX7) (N := 18) hx hb hts w1 tyX7 tyX7_ok nmX7 hown hK.1 hP hD hS 0 rfl rfl 14 (by decide) w4 (fun _ h9 => h9) rfl (by decide +kernel) rfl rfl (Nat.le_of_ble_eq_true rfl) dX7_goes_193 (fun H locs hP hD hS => ?_)
            have hP : va_P D vwCl [(mm, .inr (7, [.ref nw, .ref pa, .int (iz (kp)), .ref zl, .ref hd, .ref pd, .int (iz (pn)), .int (iz (at0)), .ref os, .int (iz (od)), .int (iz (hr_dn Z h lev uu)), .int (iz (lk_pump uu)), .int (iz (lk_loss Z (lk_pump uu))), .int (iz (hr_sp Z h lev uu)), .int (iz (((lk_fill Z h lev (lk_pump uu)) - (hr_dn Z h lev uu)) - (hr_sp Z h lev uu))), .int (iz (lk_want Z uu)), .ref mt, .ref cn])), (nw, .inl (T 0, 115, .inl (zA (mz Z))))] H := hP
            have hD : va_D A [(mm, .inr (7, [.ref nw, .ref pa, .int (iz (kp)), .ref zl, .ref hd, .ref pd, .int (iz (pn)), .int (iz (at0)), .ref os, .int (iz (od)), .int (iz (hr_dn Z h lev uu)), .int (iz (lk_pump uu)), .int (iz (lk_loss Z (lk_pump uu))), .int (iz (hr_sp Z h lev uu)), .int (iz (((lk_fill Z h lev (lk_pump uu)) - (hr_dn Z h lev uu)) - (hr_sp Z h lev uu))), .int (iz (lk_want Z uu)), .ref mt, .ref cn])), (nw, .inl (T 0, 115, .inl (zA (mz Z))))] := hD
            have hZ : (((lk_fill Z h lev (lk_pump uu)) - (hr_dn Z h lev uu)) - (hr_sp Z h lev uu) : Int) = hr_lv Z h lev uu := (by first | rfl | omega)
            have hP : va_P D vwCl [(mm, .inr (7, [.ref nw, .ref pa, .int (iz (kp)), .ref zl, .ref hd, .ref pd, .int (iz (pn)), .int (iz (at0)), .ref os, .int (iz (od)), .int (iz (hr_dn Z h lev uu)), .int (iz (lk_pump uu)), .int (iz (lk_loss Z (lk_pump uu))), .int (iz (hr_sp Z h lev uu)), .int (iz (hr_lv Z h lev uu)), .int (iz (lk_want Z uu)), .ref mt, .ref cn])), (nw, .inl (T 0, 115, .inl (zA (mz Z))))] H := by rw [← hZ]; exact hP
            have hD : va_D A [(mm, .inr (7, [.ref nw, .ref pa, .int (iz (kp)), .ref zl, .ref hd, .ref pd, .int (iz (pn)), .int (iz (at0)), .ref os, .int (iz (od)), .int (iz (hr_dn Z h lev uu)), .int (iz (lk_pump uu)), .int (iz (lk_loss Z (lk_pump uu))), .int (iz (hr_sp Z h lev uu)), .int (iz (hr_lv Z h lev uu)), .int (iz (lk_want Z uu)), .ref mt, .ref cn])), (nw, .inl (T 0, 115, .inl (zA (mz Z))))] := by rw [← hZ]; exact hD
            exact W.vret hx hb hr (fun t ht hW => ⟨⟨(), rfl, trivial, by show va_P _ _ _ t.heap; rw [ht]; exact hP⟩, hS.F ht⟩) hS.2.2 dX7_goes_196
set_option maxHeartbeats 4000000 in
set_option maxRecDepth 100000 in
theorem c_X7_isMissed (l : Launch) (D : va_G) (T : Nat → ClassId) (mm : Nat) (nw : Nat) (pa : Nat) (kp : Int) (zl : Nat) (hd : Nat) (pd : Nat) (pn : Int) (at0 : Int) (os : Nat) (od : Int) (dn : Int) (pu : Int) (lo2 : Int) (sp2 : Int) (lv2 : Int) (wa : Int) (mt : Nat) (cn : Nat) (Z : Nat → Int) (cc : Nat) (hcc : (cc : Int) < Z 114) (h : Nat) (hh24 : h < 24) (hV : VL Z) (hdn : 0 ≤ dn ∧ dn ≤ 30) : Met l yX7_isMissed wsX7_isMissed ({ frames := 1, cells := 0, slots := 0, locals := 22 }) (kPc D T [.ref mm, .int (iz (((cc : Nat) : Int))), .int (iz (((h : Nat) : Int)))] (va_P D vwCl [(mm, .inr (7, [.ref nw, .ref pa, .int (iz (kp)), .ref zl, .ref hd, .ref pd, .int (iz (pn)), .int (iz (at0)), .ref os, .int (iz (od)), .int (iz (dn)), .int (iz (pu)), .int (iz (lo2)), .int (iz (sp2)), .int (iz (lv2)), .int (iz (wa)), .ref mt, .ref cn])), (nw, .inl (T 0, 115, .inl (zA (mz Z))))])) (vp_Si (fun r : Int32 => r = iz (if Z (82 + cc * 4 + 0) = (h : Int) ∧ dn < Z (82 + cc * 4 + 1) then 1 else 0))) 0 0 (fun _ => False) := by
  refine Met.ofW (cc := cX7_isMissed) (maxL := 3) (ret := (some .boolean)) (by decide) rfl ?_
  intro p e s m args below meth c s₁ B hml hv
  obtain ⟨rfl, hK, hP⟩ := hv
  have hx := B.exec
  have hb := B.bytes
  have hr := B.returns
  have hts := atoms_spec (ws := wsX7_isMissed) B.pre
  have hown : s.vm.findClass RX7 = some m.cls := findClass_of_methodNamed B.named
  have hlocks := B.notSynchronized
  have w0 := hts (.fieldLink RX7 66 "LakePlantModel" "down" "I") (List.mem_of_getElem? (i := 1) rfl)
  have w1 : ∀ w ∈ wsX70, w ∈ wsX7_isMissed := by decide +kernel
  have hP : va_P D vwCl [(mm, .inr (7, [.ref nw, .ref pa, .int (iz (kp)), .ref zl, .ref hd, .ref pd, .int (iz (pn)), .int (iz (at0)), .ref os, .int (iz (od)), .int (iz (dn)), .int (iz (pu)), .int (iz (lo2)), .int (iz (sp2)), .int (iz (lv2)), .int (iz (wa)), .ref mt, .ref cn])), (nw, .inl (T 0, 115, .inl (zA (mz Z))))] s.heap := hP
  have hl := lv_entry ([.ref mm, .int (iz (((cc : Nat) : Int))), .int (iz (((h : Nat) : Int)))]) (n := 3) (Nat.le_of_ble_eq_true rfl)
  rw [lg_entry_eq]
  generalize (lg_sl ([.ref mm, .int (iz (((cc : Nat) : Int))), .int (iz (((h : Nat) : Int)))]) ++ List.replicate (3 - (lg_sl ([.ref mm, .int (iz (((cc : Nat) : Int))), .int (iz (((h : Nat) : Int)))])).length) Slot.unset).toArray = ls at hl ⊢
  have hl : lv_has ls 3 [(0, .ref mm), (1, .int (iz (((cc : Nat) : Int)))), (2, .int (iz (((h : Nat) : Int))))] := hl
  have hs := hV.1
  unfold VS at hs
  have hco := hV.2.2 cc hcc
  refine lv_aload_n hx hb dX7_isMissed_0 rfl (lv_at hl 0 rfl) ?_
  refine lv_iload_n hx hb dX7_isMissed_1 rfl (lv_at hl 1 rfl) ?_
  refine lv_iconst (v := iz (0)) hx hb dX7_isMissed_2 (by decide) ?_
  refine kz_top (y := ((0 : Nat) : Int)) rfl ?_
  refine kc_i (va_runV (As := [.int (iz (((cc : Nat) : Int))), .int (iz (((0 : Nat) : Int)))]) (rest := []) ⟨hx, hb, hml, hown, hts⟩ (c_X7_of l D T mm nw pa kp zl hd pd pn at0 os od dn pu lo2 sp2 lv2 wa mt cn Z cc 0 (by omega)) (cwV 2 hts gX7_isMissed_X7_of rfl rfl rfl (by decide +kernel) ⟨Nat.le_of_ble_eq_true rfl, Nat.le_of_ble_eq_true rfl⟩) (kPc.v hK (va_recv hK.1 hP (ci := 7) (q0 := 0) rfl rfl) (kcut hP [0, 1] rfl)) rfl rfl hl.1 rfl (lv_room (Nat.le_of_ble_eq_true rfl)) dX7_isMissed_3 ⟨Nat.zero_le _, Nat.zero_le _⟩) (fun r1 hr1 => ?_)
  subst hr1
  refine lv_iload_n hx hb dX7_isMissed_6 rfl (lv_at hl 2 rfl) ?_
  refine kz_icmp_ne (tgt := 27) hx hb dX7_isMissed_7 (by decide) (by omega) (by omega) (fun c7 => ?_) (fun c7 => ?_)
  · refine lv_iconst (v := iz (0)) hx hb dX7_isMissed_27 (by decide) ?_
    have hbb : (0 : Int) = if Z (82 + cc * 4 + 0) = (h : Int) ∧ dn < Z (82 + cc * 4 + 1) then 1 else 0 := by rw [if_neg (by omega)]
    exact W.zret hx hb hr (kz_nar (by omega)) (fun t ht _ => ⟨_, rfl, (congrArg iz hbb), ht⟩) (fun _ h => absurd h List.not_mem_nil) dX7_isMissed_28
  · refine lv_aload_n hx hb dX7_isMissed_10 rfl (lv_at hl 0 rfl) ?_
    refine va_get (D := D) (ci := 7) (C := RX7) (T := TX7) (N := 18) hx hb hts w1 hown hK.1 hP 0 rfl rfl 10 (by decide) w0 (fun _ h9 => h9) rfl dX7_isMissed_11 ?_
    refine lv_aload_n hx hb dX7_isMissed_14 rfl (lv_at hl 0 rfl) ?_
    refine lv_iload_n hx hb dX7_isMissed_15 rfl (lv_at hl 1 rfl) ?_
    refine lv_iconst (v := iz (1)) hx hb dX7_isMissed_16 (by decide) ?_
    refine kz_top (y := ((1 : Nat) : Int)) rfl ?_
    refine kc_i (va_runV (As := [.int (iz (((cc : Nat) : Int))), .int (iz (((1 : Nat) : Int)))]) (rest := [.int (iz (dn))]) ⟨hx, hb, hml, hown, hts⟩ (c_X7_of l D T mm nw pa kp zl hd pd pn at0 os od dn pu lo2 sp2 lv2 wa mt cn Z cc 1 (by omega)) (cwV 2 hts gX7_isMissed_X7_of rfl rfl rfl (by decide +kernel) ⟨Nat.le_of_ble_eq_true rfl, Nat.le_of_ble_eq_true rfl⟩) (kPc.v hK (va_recv hK.1 hP (ci := 7) (q0 := 0) rfl rfl) (kcut hP [0, 1] rfl)) rfl rfl hl.1 rfl (lv_room (Nat.le_of_ble_eq_true rfl)) dX7_isMissed_17 ⟨Nat.zero_le _, Nat.zero_le _⟩) (fun r2 hr2 => ?_)
    subst hr2
    refine kz_icmp_ge (tgt := 27) hx hb dX7_isMissed_20 (by decide) (by omega) (by omega) (fun c20 => ?_) (fun c20 => ?_)
    · refine lv_iconst (v := iz (0)) hx hb dX7_isMissed_27 (by decide) ?_
      have hbb : (0 : Int) = if Z (82 + cc * 4 + 0) = (h : Int) ∧ dn < Z (82 + cc * 4 + 1) then 1 else 0 := by rw [if_neg (by omega)]
      exact W.zret hx hb hr (kz_nar (by omega)) (fun t ht _ => ⟨_, rfl, (congrArg iz hbb), ht⟩) (fun _ h => absurd h List.not_mem_nil) dX7_isMissed_28
    · refine lv_iconst (v := iz (1)) hx hb dX7_isMissed_23 (by decide) ?_
      refine lv_goto (tgt := 28) hx hb dX7_isMissed_24 (by decide) ?_
      have hbb : (1 : Int) = if Z (82 + cc * 4 + 0) = (h : Int) ∧ dn < Z (82 + cc * 4 + 1) then 1 else 0 := by rw [if_pos (by omega)]
      exact W.zret hx hb hr (kz_nar (by omega)) (fun t ht _ => ⟨_, rfl, (congrArg iz hbb), ht⟩) (fun _ h => absurd h List.not_mem_nil) dX7_isMissed_28
set_option maxHeartbeats 4000000 in
set_option maxRecDepth 100000 in
theorem c_X7_money (l : Launch) (D : va_G) (T : Nat → ClassId) (mm : Nat) (nw : Nat) (pa : Nat) (kp : Int) (zl : Nat) (hd : Nat) (pd : Nat) (pn : Int) (at0 : Int) (os : Nat) (od : Int) (dn : Int) (pu : Int) (lo2 : Int) (sp2 : Int) (lv2 : Int) (wa : Int) (mt : Nat) (cn : Nat) (Z : Nat → Int) (h : Nat) (hh24 : h < 24) (hV : VL Z) (hdn : 0 ≤ dn ∧ dn ≤ 30) (hpu : 0 ≤ pu ∧ pu ≤ 30) : Met l yX7_money wsX7_money ({ frames := 2, cells := 0, slots := 0, locals := 44 }) (kPc D T [.ref mm, .int (iz (((h : Nat) : Int)))] (va_P D vwCl [(mm, .inr (7, [.ref nw, .ref pa, .int (iz (kp)), .ref zl, .ref hd, .ref pd, .int (iz (pn)), .int (iz (at0)), .ref os, .int (iz (od)), .int (iz (dn)), .int (iz (pu)), .int (iz (lo2)), .int (iz (sp2)), .int (iz (lv2)), .int (iz (wa)), .ref mt, .ref cn])), (nw, .inl (T 0, 115, .inl (zA (mz Z))))])) (vp_Si (fun r : Int32 => r = iz (lk_earn Z h dn - pu * Z (10 + h)))) 0 0 (fun _ => False) := by
  refine Met.ofW (cc := cX7_money) (maxL := 5) (ret := (some .int)) (by decide) rfl ?_
  intro p e s m args below meth c s₁ B hml hv
  obtain ⟨rfl, hK, hP⟩ := hv
  have hx := B.exec
  have hb := B.bytes
  have hr := B.returns
  have hts := atoms_spec (ws := wsX7_money) B.pre
  have hown : s.vm.findClass RX7 = some m.cls := findClass_of_methodNamed B.named
  have hlocks := B.notSynchronized
  have w0 := hts (.fieldLink RX7 7 "LakePlantModel" "now" "[I") (List.mem_of_getElem? (i := 1) rfl)
  have w1 : ∀ w ∈ wsX70, w ∈ wsX7_money := by decide +kernel
  have w2 := hts (.fieldLink RX7 66 "LakePlantModel" "down" "I") (List.mem_of_getElem? (i := 2) rfl)
  have w3 := hts (.fieldLink RX7 54 "LakePlantModel" "pumped" "I") (List.mem_of_getElem? (i := 3) rfl)
  have hP : va_P D vwCl [(mm, .inr (7, [.ref nw, .ref pa, .int (iz (kp)), .ref zl, .ref hd, .ref pd, .int (iz (pn)), .int (iz (at0)), .ref os, .int (iz (od)), .int (iz (dn)), .int (iz (pu)), .int (iz (lo2)), .int (iz (sp2)), .int (iz (lv2)), .int (iz (wa)), .ref mt, .ref cn])), (nw, .inl (T 0, 115, .inl (zA (mz Z))))] s.heap := hP
  have hl := lv_entry ([.ref mm, .int (iz (((h : Nat) : Int)))]) (n := 5) (Nat.le_of_ble_eq_true rfl)
  rw [lg_entry_eq]
  generalize (lg_sl ([.ref mm, .int (iz (((h : Nat) : Int)))]) ++ List.replicate (5 - (lg_sl ([.ref mm, .int (iz (((h : Nat) : Int)))])).length) Slot.unset).toArray = ls at hl ⊢
  have hl : lv_has ls 5 [(0, .ref mm), (1, .int (iz (((h : Nat) : Int))))] := hl
  have hs := hV.1
  unfold VS at hs
  have hpr := (hV.2.1 h hh24).1
  have hz1 := zmul hdn hpr
  have hz2 := zmul hz1 hs.2.2.2.1
  have hz3 := zmul hpu hpr
  have hean : lk_earn Z h dn = dn * Z (10 + h) * Z 3 / 100 + lk_cs Z h dn (Z 114).toNat - (if dn < Z 4 then Z 9 else 0) := rfl
  refine lv_aload_n hx hb dX7_money_0 rfl (lv_at hl 0 rfl) ?_
  refine va_get (D := D) (ci := 7) (C := RX7) (T := TX7) (N := 18) hx hb hts w1 hown hK.1 hP 0 rfl rfl 0 (by decide) w0 (fun _ h9 => h9) rfl dX7_money_1 ?_
  refine lv_bipush (v := iz (10)) hx hb dX7_money_4 (by decide) ?_
  refine lv_iload_n hx hb dX7_money_6 rfl (lv_at hl 1 rfl) ?_
  refine kz_add hx hb dX7_money_7 ?_
  refine kz_iald hx hb hK hP (1) rfl (10 + h) (by omega) (by omega) (by omega) dX7_money_8 ?_
  refine kz_top (y := Z (10 + h)) (mz_lo (by omega)) ?_
  refine lv_istore_n (lv' := [(2, .int (iz (Z (10 + h)))), (0, .ref mm), (1, .int (iz (((h : Nat) : Int))))]) hx hb dX7_money_9 rfl hl (by decide) rfl (fun ls hl => ?_)
  refine lv_aload_n hx hb dX7_money_10 rfl (lv_at hl 1 rfl) ?_
  refine va_get (D := D) (ci := 7) (C := RX7) (T := TX7) (N := 18) hx hb hts w1 hown hK.1 hP 0 rfl rfl 10 (by decide) w2 (fun _ h9 => h9) rfl dX7_money_11 ?_
  refine lv_iload_n hx hb dX7_money_14 rfl (lv_at hl 0 rfl) ?_
  refine kz_mul hx hb dX7_money_15 ?_
  refine lv_aload_n hx hb dX7_money_16 rfl (lv_at hl 1 rfl) ?_
  refine va_get (D := D) (ci := 7) (C := RX7) (T := TX7) (N := 18) hx hb hts w1 hown hK.1 hP 0 rfl rfl 0 (by decide) w0 (fun _ h9 => h9) rfl dX7_money_17 ?_
  refine lv_iconst (v := iz (3)) hx hb dX7_money_20 (by decide) ?_
  refine kz_iald hx hb hK hP (1) rfl (3) (by omega) (by omega) (by omega) dX7_money_21 ?_
  refine kz_top (y := Z 3) (mz_lo (by omega)) ?_
  refine kz_mul hx hb dX7_money_22 ?_
  refine lv_bipush (v := iz (100)) hx hb dX7_money_23 (by decide) ?_
  refine kz_div hx hb (by omega) (by omega) dX7_money_25 ?_
  refine lv_aload_n hx hb dX7_money_26 rfl (lv_at hl 1 rfl) ?_
  refine va_get (D := D) (ci := 7) (C := RX7) (T := TX7) (N := 18) hx hb hts w1 hown hK.1 hP 0 rfl rfl 11 (by decide) w3 (fun _ h9 => h9) rfl dX7_money_27 ?_
  refine lv_iload_n hx hb dX7_money_30 rfl (lv_at hl 0 rfl) ?_
  refine kz_mul hx hb dX7_money_31 ?_
  refine kz_sub hx hb dX7_money_32 ?_
  refine lv_istore_n (lv' := [(3, .int (iz ((((dn * (Z (10 + h))) * (Z 3)) / 100) - (pu * (Z (10 + h)))))), (2, .int (iz (Z (10 + h)))), (0, .ref mm), (1, .int (iz (((h : Nat) : Int))))]) hx hb dX7_money_33 rfl hl (by decide) rfl (fun ls hl => ?_)
  refine lv_iconst (v := iz (0)) hx hb dX7_money_34 (by decide) ?_
  refine lv_istore (lv' := [(4, .int (iz (0))), (3, .int (iz ((((dn * (Z (10 + h))) * (Z 3)) / 100) - (pu * (Z (10 + h)))))), (2, .int (iz (Z (10 + h)))), (0, .ref mm), (1, .int (iz (((h : Nat) : Int))))]) hx hb dX7_money_35 hl (by decide) rfl (fun ls hl => ?_)
  have hl : lv_has ls 5 [(4, .int (iz (0))), (3, .int (iz ((dn * Z (10 + h) * Z 3 / 100 - pu * Z (10 + h)) + lk_cs Z h dn 0))), (2, .int (iz (Z (10 + h)))), (0, .ref mm), (1, .int (iz (((h : Nat) : Int))))] := by rw [← (show ((((dn * (Z (10 + h))) * (Z 3)) / 100) - (pu * (Z (10 + h))) : Int) = (dn * Z (10 + h) * Z 3 / 100 - pu * Z (10 + h)) + lk_cs Z h dn 0 from (by show _ = _ + (0 : Int); omega))]; exact hl
  have hl : lv_has ls 5 [(4, .int (iz (((0 : Nat) : Int)))), (3, .int (iz ((dn * Z (10 + h) * Z 3 / 100 - pu * Z (10 + h)) + lk_cs Z h dn 0))), (2, .int (iz (Z (10 + h)))), (0, .ref mm), (1, .int (iz (((h : Nat) : Int))))] := by rw [← (show (0 : Int) = ((0 : Nat) : Int) from (by first | rfl | omega))]; exact hl
  refine kz_loopR1 (pc := 37) (I := fun (n : Nat) (ls : Array Slot) => ((n : Int) ≤ Z 114) ∧ lv_has ls 5 [(0, .ref mm), (1, .int (iz (((h : Nat) : Int)))), (2, .int (iz (Z (10 + h)))), (3, .int (iz ((dn * Z (10 + h) * Z 3 / 100 - pu * Z (10 + h)) + lk_cs Z h dn n))), (4, .int (iz (((n : Nat) : Int))))]) (μ := fun (n : Nat) => 8 - n) 0 ⟨(by omega), lv_sub hl [3, 4, 2, 1, 0] rfl⟩ ?_
  rintro n ls ⟨hn, hl⟩ ih37
  have hcs := lk_cs_rng hV h dn n hn
  have hcn : (n : Int) < Z 114 → _ := hV.2.2 n
  refine lv_iload hx hb dX7_money_37 (lv_at hl 4 rfl) ?_
  refine lv_aload_n hx hb dX7_money_39 rfl (lv_at hl 0 rfl) ?_
  refine va_get (D := D) (ci := 7) (C := RX7) (T := TX7) (N := 18) hx hb hts w1 hown hK.1 hP 0 rfl rfl 0 (by decide) w0 (fun _ h9 => h9) rfl dX7_money_40 ?_
  refine lv_bipush (v := iz (82)) hx hb dX7_money_43 (by decide) ?_
  refine kz_iald hx hb hK hP (1) rfl (82) (by omega) (by omega) (by omega) dX7_money_45 ?_
  refine kz_top (y := Z 114) (mz_82 _) ?_
  refine kz_icmp_ge (tgt := 97) hx hb dX7_money_46 (by decide) (by omega) (by omega) (fun c46 => ?_) (fun c46 => ?_)
  · have hnn : (Z 114).toNat = n := by omega
    refine lv_iload_n hx hb dX7_money_97 rfl (lv_at hl 3 rfl) ?_
    refine kz_join (pcj := 122) (P := fun v1 => v1 = if dn < Z 4 then Z 9 else 0) (rest := [.int (iz ((dn * Z (10 + h) * Z 3 / 100 - pu * Z (10 + h)) + lk_cs Z h dn n))]) (ls := ls) (fun J122 => ?_) (fun v1 ev1 => ?_)
    · refine lv_aload_n hx hb dX7_money_98 rfl (lv_at hl 0 rfl) ?_
      refine va_get (D := D) (ci := 7) (C := RX7) (T := TX7) (N := 18) hx hb hts w1 hown hK.1 hP 0 rfl rfl 10 (by decide) w2 (fun _ h9 => h9) rfl dX7_money_99 ?_
      refine lv_aload_n hx hb dX7_money_102 rfl (lv_at hl 0 rfl) ?_
      refine va_get (D := D) (ci := 7) (C := RX7) (T := TX7) (N := 18) hx hb hts w1 hown hK.1 hP 0 rfl rfl 0 (by decide) w0 (fun _ h9 => h9) rfl dX7_money_103 ?_
      refine lv_iconst (v := iz (4)) hx hb dX7_money_106 (by decide) ?_
      refine kz_iald hx hb hK hP (1) rfl (4) (by omega) (by omega) (by omega) dX7_money_107 ?_
      refine kz_top (y := Z 4) (mz_lo (by omega)) ?_
      refine kz_icmp_ge (tgt := 121) hx hb dX7_money_108 (by decide) (by omega) (by omega) (fun c108 => ?_) (fun c108 => ?_)
      · refine lv_iconst (v := iz (0)) hx hb dX7_money_121 (by decide) ?_
        exact J122 (0) (by split <;> omega)
      · refine lv_aload_n hx hb dX7_money_111 rfl (lv_at hl 0 rfl) ?_
        refine va_get (D := D) (ci := 7) (C := RX7) (T := TX7) (N := 18) hx hb hts w1 hown hK.1 hP 0 rfl rfl 0 (by decide) w0 (fun _ h9 => h9) rfl dX7_money_112 ?_
        refine lv_bipush (v := iz (9)) hx hb dX7_money_115 (by decide) ?_
        refine kz_iald hx hb hK hP (1) rfl (9) (by omega) (by omega) (by omega) dX7_money_117 ?_
        refine kz_top (y := Z 9) (mz_lo (by omega)) ?_
        refine lv_goto (tgt := 122) hx hb dX7_money_118 (by decide) ?_
        exact J122 (Z 9) (by split <;> omega)
    · have hv1 : v1 = Z 9 ∨ v1 = 0 := by rw [ev1]; split <;> omega
      refine kz_sub hx hb dX7_money_122 ?_
      exact W.iret hx hb hr (fun t ht _ => ⟨_, rfl, (congrArg iz (by rw [hean, hnn, ← ev1]; omega)), ht⟩) (fun _ h => absurd h List.not_mem_nil) dX7_money_123
  · have hco := hcn (by omega)
    refine lv_aload_n hx hb dX7_money_49 rfl (lv_at hl 0 rfl) ?_
    refine lv_iload hx hb dX7_money_50 (lv_at hl 4 rfl) ?_
    refine lv_iconst (v := iz (0)) hx hb dX7_money_52 (by decide) ?_
    refine kc_i (va_runV (As := [.int (iz (((n : Nat) : Int))), .int (iz (0))]) (rest := []) ⟨hx, hb, hml, hown, hts⟩ (c_X7_of l D T mm nw pa kp zl hd pd pn at0 os od dn pu lo2 sp2 lv2 wa mt cn Z n 0 (by omega)) (cwV 2 hts gX7_money_X7_of rfl rfl rfl (by decide +kernel) ⟨Nat.le_of_ble_eq_true rfl, Nat.le_of_ble_eq_true rfl⟩) (kPc.v hK (va_recv hK.1 hP (ci := 7) (q0 := 0) rfl rfl) (kcut hP [0, 1] rfl)) rfl rfl hl.1 rfl (lv_room (Nat.le_of_ble_eq_true rfl)) dX7_money_53 ⟨Nat.zero_le _, Nat.zero_le _⟩) (fun r1 hr1 => ?_)
    subst hr1
    refine lv_iload_n hx hb dX7_money_56 rfl (lv_at hl 1 rfl) ?_
    refine kz_icmp_ne (tgt := 91) hx hb dX7_money_57 (by decide) (by omega) (by omega) (fun c57 => ?_) (fun c57 => ?_)
    · have hcs2 : lk_cs Z h dn (n + 1) = lk_cs Z h dn n + 0 := by show lk_cs Z h dn n + _ = _; rw [if_neg (by omega)]
      refine kz_iinc (b := ((n + 1 : Nat) : Int)) (lv' := [(4, .int (iz (((n + 1 : Nat) : Int)))), (0, .ref mm), (1, .int (iz (((h : Nat) : Int)))), (2, .int (iz (Z (10 + h)))), (3, .int (iz ((dn * Z (10 + h) * Z 3 / 100 - pu * Z (10 + h)) + lk_cs Z h dn n)))]) hx hb dX7_money_91 hl (k := 4) rfl (by omega) (by decide) rfl (fun ls hl => ?_)
      refine lv_goto (tgt := 37) hx hb dX7_money_94 (by decide) ?_
      have hl : lv_has ls 5 [(4, .int (iz (((n + 1 : Nat) : Int)))), (0, .ref mm), (1, .int (iz (((h : Nat) : Int)))), (2, .int (iz (Z (10 + h)))), (3, .int (iz ((dn * Z (10 + h) * Z 3 / 100 - pu * Z (10 + h)) + lk_cs Z h dn (n + 1))))] := by rw [← (show ((dn * Z (10 + h) * Z 3 / 100 - pu * Z (10 + h)) + lk_cs Z h dn n : Int) = (dn * Z (10 + h) * Z 3 / 100 - pu * Z (10 + h)) + lk_cs Z h dn (n + 1) from (by rw [hcs2]; omega))]; exact hl
      exact ih37 (n + 1) _ ⟨(by omega), lv_sub hl [1, 2, 3, 4, 0] rfl⟩ (by omega)
    · refine lv_iload_n hx hb dX7_money_60 rfl (lv_at hl 3 rfl) ?_
      refine lv_aload_n hx hb dX7_money_61 rfl (lv_at hl 0 rfl) ?_
      refine lv_iload hx hb dX7_money_62 (lv_at hl 4 rfl) ?_
      refine lv_iload_n hx hb dX7_money_64 rfl (lv_at hl 1 rfl) ?_
      refine kc_i (va_runV (As := [.int (iz (((n : Nat) : Int))), .int (iz (((h : Nat) : Int)))]) (rest := [.int (iz ((dn * Z (10 + h) * Z 3 / 100 - pu * Z (10 + h)) + lk_cs Z h dn n))]) ⟨hx, hb, hml, hown, hts⟩ (c_X7_isMissed l D T mm nw pa kp zl hd pd pn at0 os od dn pu lo2 sp2 lv2 wa mt cn Z n (by omega) h (by omega) hV (by omega)) (cwV 2 hts gX7_money_X7_isMissed rfl rfl rfl (by decide +kernel) ⟨Nat.le_of_ble_eq_true rfl, Nat.le_of_ble_eq_true rfl⟩) (kPc.v hK (va_recv hK.1 hP (ci := 7) (q0 := 0) rfl rfl) (kcut hP [0, 1] rfl)) rfl rfl hl.1 rfl (lv_room (Nat.le_of_ble_eq_true rfl)) dX7_money_65 ⟨Nat.zero_le _, Nat.zero_le _⟩) (fun r2 hr2 => ?_)
      subst hr2
      refine kz_if_eq (tgt := 82) hx hb dX7_money_68 (by decide) (by omega) (fun c68 => ?_) (fun c68 => ?_)
      · have hcs2 : lk_cs Z h dn (n + 1) = lk_cs Z h dn n + Z (82 + n * 4 + 2) := by show lk_cs Z h dn n + _ = _; rw [if_pos (by omega), if_pos (by split at c68 <;> omega)]
        refine lv_aload_n hx hb dX7_money_82 rfl (lv_at hl 0 rfl) ?_
        refine lv_iload hx hb dX7_money_83 (lv_at hl 4 rfl) ?_
        refine lv_iconst (v := iz (2)) hx hb dX7_money_85 (by decide) ?_
        refine kc_i (va_runV (As := [.int (iz (((n : Nat) : Int))), .int (iz (2))]) (rest := [.int (iz ((dn * Z (10 + h) * Z 3 / 100 - pu * Z (10 + h)) + lk_cs Z h dn n))]) ⟨hx, hb, hml, hown, hts⟩ (c_X7_of l D T mm nw pa kp zl hd pd pn at0 os od dn pu lo2 sp2 lv2 wa mt cn Z n 2 (by omega)) (cwV 2 hts gX7_money_X7_of rfl rfl rfl (by decide +kernel) ⟨Nat.le_of_ble_eq_true rfl, Nat.le_of_ble_eq_true rfl⟩) (kPc.v hK (va_recv hK.1 hP (ci := 7) (q0 := 0) rfl rfl) (kcut hP [0, 1] rfl)) rfl rfl hl.1 rfl (lv_room (Nat.le_of_ble_eq_true rfl)) dX7_money_86 ⟨Nat.zero_le _, Nat.zero_le _⟩) (fun r3 hr3 => ?_)
        subst hr3
        refine kz_add hx hb dX7_money_89 ?_
        refine lv_istore_n (lv' := [(3, .int (iz (((dn * Z (10 + h) * Z 3 / 100 - pu * Z (10 + h)) + lk_cs Z h dn n) + (Z (82 + n * 4 + 2))))), (0, .ref mm), (1, .int (iz (((h : Nat) : Int)))), (2, .int (iz (Z (10 + h)))), (4, .int (iz (((n : Nat) : Int))))]) hx hb dX7_money_90 rfl hl (by decide) rfl (fun ls hl => ?_)
        refine kz_iinc (b := ((n + 1 : Nat) : Int)) (lv' := [(4, .int (iz (((n + 1 : Nat) : Int)))), (3, .int (iz (((dn * Z (10 + h) * Z 3 / 100 - pu * Z (10 + h)) + lk_cs Z h dn n) + (Z (82 + n * 4 + 2))))), (0, .ref mm), (1, .int (iz (((h : Nat) : Int)))), (2, .int (iz (Z (10 + h))))]) hx hb dX7_money_91 hl (k := 4) rfl (by omega) (by decide) rfl (fun ls hl => ?_)
        refine lv_goto (tgt := 37) hx hb dX7_money_94 (by decide) ?_
        have hl : lv_has ls 5 [(4, .int (iz (((n + 1 : Nat) : Int)))), (3, .int (iz ((dn * Z (10 + h) * Z 3 / 100 - pu * Z (10 + h)) + lk_cs Z h dn (n + 1)))), (0, .ref mm), (1, .int (iz (((h : Nat) : Int)))), (2, .int (iz (Z (10 + h))))] := by rw [← (show (((dn * Z (10 + h) * Z 3 / 100 - pu * Z (10 + h)) + lk_cs Z h dn n) + (Z (82 + n * 4 + 2)) : Int) = (dn * Z (10 + h) * Z 3 / 100 - pu * Z (10 + h)) + lk_cs Z h dn (n + 1) from (by rw [hcs2]; omega))]; exact hl
        exact ih37 (n + 1) _ ⟨(by omega), lv_sub hl [2, 3, 4, 1, 0] rfl⟩ (by omega)
      · have hcs2 : lk_cs Z h dn (n + 1) = lk_cs Z h dn n + (-Z (82 + n * 4 + 3)) := by show lk_cs Z h dn n + _ = _; rw [if_pos (by omega), if_neg (by split at c68 <;> omega)]
        refine lv_aload_n hx hb dX7_money_71 rfl (lv_at hl 0 rfl) ?_
        refine lv_iload hx hb dX7_money_72 (lv_at hl 4 rfl) ?_
        refine lv_iconst (v := iz (3)) hx hb dX7_money_74 (by decide) ?_
        refine kc_i (va_runV (As := [.int (iz (((n : Nat) : Int))), .int (iz (3))]) (rest := [.int (iz ((dn * Z (10 + h) * Z 3 / 100 - pu * Z (10 + h)) + lk_cs Z h dn n))]) ⟨hx, hb, hml, hown, hts⟩ (c_X7_of l D T mm nw pa kp zl hd pd pn at0 os od dn pu lo2 sp2 lv2 wa mt cn Z n 3 (by omega)) (cwV 2 hts gX7_money_X7_of rfl rfl rfl (by decide +kernel) ⟨Nat.le_of_ble_eq_true rfl, Nat.le_of_ble_eq_true rfl⟩) (kPc.v hK (va_recv hK.1 hP (ci := 7) (q0 := 0) rfl rfl) (kcut hP [0, 1] rfl)) rfl rfl hl.1 rfl (lv_room (Nat.le_of_ble_eq_true rfl)) dX7_money_75 ⟨Nat.zero_le _, Nat.zero_le _⟩) (fun r4 hr4 => ?_)
        subst hr4
        refine kz_neg hx hb dX7_money_78 ?_
        refine lv_goto (tgt := 89) hx hb dX7_money_79 (by decide) ?_
        refine kz_add hx hb dX7_money_89 ?_
        refine lv_istore_n (lv' := [(3, .int (iz (((dn * Z (10 + h) * Z 3 / 100 - pu * Z (10 + h)) + lk_cs Z h dn n) + (-(Z (82 + n * 4 + 3)))))), (0, .ref mm), (1, .int (iz (((h : Nat) : Int)))), (2, .int (iz (Z (10 + h)))), (4, .int (iz (((n : Nat) : Int))))]) hx hb dX7_money_90 rfl hl (by decide) rfl (fun ls hl => ?_)
        refine kz_iinc (b := ((n + 1 : Nat) : Int)) (lv' := [(4, .int (iz (((n + 1 : Nat) : Int)))), (3, .int (iz (((dn * Z (10 + h) * Z 3 / 100 - pu * Z (10 + h)) + lk_cs Z h dn n) + (-(Z (82 + n * 4 + 3)))))), (0, .ref mm), (1, .int (iz (((h : Nat) : Int)))), (2, .int (iz (Z (10 + h))))]) hx hb dX7_money_91 hl (k := 4) rfl (by omega) (by decide) rfl (fun ls hl => ?_)
        refine lv_goto (tgt := 37) hx hb dX7_money_94 (by decide) ?_
        have hl : lv_has ls 5 [(4, .int (iz (((n + 1 : Nat) : Int)))), (3, .int (iz ((dn * Z (10 + h) * Z 3 / 100 - pu * Z (10 + h)) + lk_cs Z h dn (n + 1)))), (0, .ref mm), (1, .int (iz (((h : Nat) : Int)))), (2, .int (iz (Z (10 + h))))] := by rw [← (show (((dn * Z (10 + h) * Z 3 / 100 - pu * Z (10 + h)) + lk_cs Z h dn n) + (-(Z (82 + n * 4 + 3))) : Int) = (dn * Z (10 + h) * Z 3 / 100 - pu * Z (10 + h)) + lk_cs Z h dn (n + 1) from (by rw [hcs2]; omega))]; exact hl
        exact ih37 (n + 1) _ ⟨(by omega), lv_sub hl [2, 3, 4, 1, 0] rfl⟩ (by omega)
