set_option maxHeartbeats 4000000 in
set_option maxRecDepth 100000 in
theorem c_X7_isOrder (l : Launch) (D : va_G) (T : Nat → ClassId) (sz : Nat) (mm : Nat) (nw : Nat) (pa : Nat) (kp : Int) (zl : Nat) (hd : Nat) (pd : Nat) (os : Nat) (dn : Int) (pu : Int) (lo2 : Int) (sp2 : Int) (lv2 : Int) (wa : Int) (mt : Nat) (cn : Nat) (P : Nat → Int) (n : Nat) (hVP : VP P n) (i : Nat) (hi : i ≤ n) (k : Nat) (hk40 : k ≤ 40) (O : Nat → Int) : Met l yX7_isOrder wsX7_isOrder ({ frames := 4, cells := 0, slots := 0, locals := 89 }) (kPc D T [.ref mm] (kW D sz [(mm, .inr (7, [.ref nw, .ref pa, .int (iz (kp)), .ref zl, .ref hd, .ref pd, .int (iz (((n : Nat) : Int))), .int (iz (((i : Nat) : Int))), .ref os, .int (iz (((k : Nat) : Int))), .int (iz (dn)), .int (iz (pu)), .int (iz (lo2)), .int (iz (sp2)), .int (iz (lv2)), .int (iz (wa)), .ref mt, .ref cn])), (pd, .inl (T 0, 80, .inl (zA P))), (os, .inl (T 0, 205, .inl (zA O)))])) (va_Qi (fun (r : Int32) (u : Nat → Int) => r = iz (po_ok P n i) ∧ (u (5 * k) = pd_s P n i ∧ (po_ok P n i = 1 → OD P n i u k)) ∧ ∀ j : Nat, j < 5 * k → u j = O j) (fun (u : Nat → Int) (t : State) => va_P D vwCl [(mm, .inr (7, [.ref nw, .ref pa, .int (iz (kp)), .ref zl, .ref hd, .ref pd, .int (iz (((n : Nat) : Int))), .int (iz (((po_end P n i : Nat) : Int))), .ref os, .int (iz (((k : Nat) : Int))), .int (iz (dn)), .int (iz (pu)), .int (iz (lo2)), .int (iz (sp2)), .int (iz (lv2)), .int (iz (wa)), .ref mt, .ref cn])), (pd, .inl (T 0, 80, .inl (zA P))), (os, .inl (T 0, 205, .inl (zA u)))] t.heap) (va_A [(mm, .inr (7, [.ref nw, .ref pa, .int (iz (kp)), .ref zl, .ref hd, .ref pd, .int (iz (((n : Nat) : Int))), .int (iz (((i : Nat) : Int))), .ref os, .int (iz (((k : Nat) : Int))), .int (iz (dn)), .int (iz (pu)), .int (iz (lo2)), .int (iz (sp2)), .int (iz (lv2)), .int (iz (wa)), .ref mt, .ref cn])), (pd, .inl (T 0, 80, .inl (zA P))), (os, .inl (T 0, 205, .inl (zA O)))] sz)) 0 0 (va_A [(mm, .inr (7, [.ref nw, .ref pa, .int (iz (kp)), .ref zl, .ref hd, .ref pd, .int (iz (((n : Nat) : Int))), .int (iz (((i : Nat) : Int))), .ref os, .int (iz (((k : Nat) : Int))), .int (iz (dn)), .int (iz (pu)), .int (iz (lo2)), .int (iz (sp2)), .int (iz (lv2)), .int (iz (wa)), .ref mt, .ref cn])), (pd, .inl (T 0, 80, .inl (zA P))), (os, .inl (T 0, 205, .inl (zA O)))] sz) := by
  refine Met.ofW (cc := cX7_isOrder) (maxL := 2) (ret := (some .boolean)) (by decide) rfl ?_
  intro p e s m args below meth c s₁ B hml hv
  obtain ⟨rfl, hK, hsz, hP, hD0⟩ := hv
  have hx := B.exec
  have hb := B.bytes
  have hr := B.returns
  have hts := atoms_spec (ws := wsX7_isOrder) B.pre
  have hown : s.vm.findClass RX7 = some m.cls := findClass_of_methodNamed B.named
  have hlocks := B.notSynchronized
  have w0 := hts (.fieldLink RX7 165 "LakePlantModel" "at" "I") (List.mem_of_getElem? (i := 1) rfl)
  have w1 : ∀ w ∈ wsX70, w ∈ wsX7_isOrder := by decide +kernel
  have w2 := hts (.fieldLink RX7 152 "LakePlantModel" "padded" "I") (List.mem_of_getElem? (i := 2) rfl)
  have w3 := hts (.fieldLink RX7 23 "LakePlantModel" "pad" "[I") (List.mem_of_getElem? (i := 3) rfl)
  have w4 := hts (.fieldLink RX7 26 "LakePlantModel" "orders" "[I") (List.mem_of_getElem? (i := 4) rfl)
  have w5 := hts (.fieldLink RX7 171 "LakePlantModel" "ordered" "I") (List.mem_of_getElem? (i := 5) rfl)
  subst hsz
  have hD := hD0.self (sz := s.heap.size)
  generalize hAe : va_A [(mm, .inr (7, [.ref nw, .ref pa, .int (iz (kp)), .ref zl, .ref hd, .ref pd, .int (iz (((n : Nat) : Int))), .int (iz (((i : Nat) : Int))), .ref os, .int (iz (((k : Nat) : Int))), .int (iz (dn)), .int (iz (pu)), .int (iz (lo2)), .int (iz (sp2)), .int (iz (lv2)), .int (iz (wa)), .ref mt, .ref cn])), (pd, .inl (T 0, 80, .inl (zA P))), (os, .inl (T 0, 205, .inl (zA O)))] s.heap.size = A at hD ⊢
  have hA : ∀ q : Nat, s.heap.size ≤ q → A q := fun q h => by rw [← hAe]; exact Or.inr h
  have hS : va_S A s.heap s.heap [] := va_S.rf
  have hP : va_P D vwCl [(mm, .inr (7, [.ref nw, .ref pa, .int (iz (kp)), .ref zl, .ref hd, .ref pd, .int (iz (((n : Nat) : Int))), .int (iz (((i : Nat) : Int))), .ref os, .int (iz (((k : Nat) : Int))), .int (iz (dn)), .int (iz (pu)), .int (iz (lo2)), .int (iz (sp2)), .int (iz (lv2)), .int (iz (wa)), .ref mt, .ref cn])), (pd, .inl (T 0, 80, .inl (zA P))), (os, .inl (T 0, 205, .inl (zA O)))] s.heap := hP
  have hl := lv_entry ([.ref mm]) (n := 2) (Nat.le_of_ble_eq_true rfl)
  rw [lg_entry_eq]
  generalize (lg_sl ([.ref mm]) ++ List.replicate (2 - (lg_sl ([.ref mm])).length) Slot.unset).toArray = ls at hl ⊢
  have hl : lv_has ls 2 [(0, .ref mm)] := hl
  have hn80 := hVP.1
  have hs0 := pd_s_rng hVP i
  have hend : po_end P n i = if pd_s P n i = 97 then i + 1 else if pd_s P n i = 99 then pc_end P n (i + 1) else if pd_s P n i = 112 ∨ pd_s P n i = 105 ∨ pd_s P n i = 117 then ps_end P n (pd_s P n i) (i + 1) else i := rfl
  have hokd : po_ok P n i = if pd_s P n i = 97 then 1 else if pd_s P n i = 99 then pc_ok P n (i + 1) else if pd_s P n i = 112 ∨ pd_s P n i = 105 ∨ pd_s P n i = 117 then ps_ok P n (pd_s P n i) (i + 1) else 0 := rfl
  have lz0 : pd_s P n i ≠ 0 → i + 1 ≤ n := fun q => pd_s_pos q
  have hz2 := pc_ok01 P n (i + 1)
  have hz3 := ps_ok01 P n (pd_s P n i) (i + 1)
  refine kz_join (pcj := 24) (P := fun v1 => v1 = pd_s P n i) (rest := []) (ls := ls) (fun J24 => ?_) (fun v1 ev1 => ?_)
  · refine lv_aload_n hx hb dX7_isOrder_0 rfl (lv_at hl 0 rfl) ?_
    refine va_get (D := D) (ci := 7) (C := RX7) (T := TX7) (N := 18) hx hb hts w1 hown hK.1 hP 0 rfl rfl 7 (by decide) w0 (fun _ h9 => h9) rfl dX7_isOrder_1 ?_
    refine lv_aload_n hx hb dX7_isOrder_4 rfl (lv_at hl 0 rfl) ?_
    refine va_get (D := D) (ci := 7) (C := RX7) (T := TX7) (N := 18) hx hb hts w1 hown hK.1 hP 0 rfl rfl 6 (by decide) w2 (fun _ h9 => h9) rfl dX7_isOrder_5 ?_
    refine kz_icmp_ge (tgt := 23) hx hb dX7_isOrder_8 (by decide) (by omega) (by omega) (fun c8 => ?_) (fun c8 => ?_)
    · refine lv_iconst (v := iz (0)) hx hb dX7_isOrder_23 (by decide) ?_
      exact J24 (0) (by unfold pd_s; first | (rw [if_pos (by omega)]; done) | (rw [if_neg (by omega)]; done))
    · refine lv_aload_n hx hb dX7_isOrder_11 rfl (lv_at hl 0 rfl) ?_
      refine va_get (D := D) (ci := 7) (C := RX7) (T := TX7) (N := 18) hx hb hts w1 hown hK.1 hP 0 rfl rfl 5 (by decide) w3 (fun _ h9 => h9) rfl dX7_isOrder_12 ?_
      refine lv_aload_n hx hb dX7_isOrder_15 rfl (lv_at hl 0 rfl) ?_
      refine va_get (D := D) (ci := 7) (C := RX7) (T := TX7) (N := 18) hx hb hts w1 hown hK.1 hP 0 rfl rfl 7 (by decide) w0 (fun _ h9 => h9) rfl dX7_isOrder_16 ?_
      refine kz_iald hx hb hK hP (1) rfl (i) (by omega) (by omega) (by omega) dX7_isOrder_19 ?_
      refine lv_goto (tgt := 24) hx hb dX7_isOrder_20 (by decide) ?_
      exact J24 (P i) (by unfold pd_s; first | (rw [if_pos (by omega)]; done) | (rw [if_neg (by omega)]; done))
  · refine kz_top (y := pd_s P n i) ev1 ?_
    refine lv_istore_n (lv' := [(1, .int (iz (pd_s P n i))), (0, .ref mm)]) hx hb dX7_isOrder_24 rfl hl (by decide) rfl (fun ls hl => ?_)
    refine lv_aload_n hx hb dX7_isOrder_25 rfl (lv_at hl 1 rfl) ?_
    refine va_get (D := D) (ci := 7) (C := RX7) (T := TX7) (N := 18) hx hb hts w1 hown hK.1 hP 0 rfl rfl 8 (by decide) w4 (fun _ h9 => h9) rfl dX7_isOrder_26 ?_
    refine lv_iconst (v := iz (5)) hx hb dX7_isOrder_29 (by decide) ?_
    refine lv_aload_n hx hb dX7_isOrder_30 rfl (lv_at hl 1 rfl) ?_
    refine va_get (D := D) (ci := 7) (C := RX7) (T := TX7) (N := 18) hx hb hts w1 hown hK.1 hP 0 rfl rfl 9 (by decide) w5 (fun _ h9 => h9) rfl dX7_isOrder_31 ?_
    refine kz_mul hx hb dX7_isOrder_34 ?_
    refine lv_iload_n hx hb dX7_isOrder_35 rfl (lv_at hl 0 rfl) ?_
    refine kz_iast hx hb hK hP hD hS (2) rfl (5 * k) (by omega) (by omega) (by omega) dX7_isOrder_36 (fun H locs hP hD hS => ?_)
    have hP : va_P D vwCl [(mm, .inr (7, [.ref nw, .ref pa, .int (iz (kp)), .ref zl, .ref hd, .ref pd, .int (iz (((n : Nat) : Int))), .int (iz (((i : Nat) : Int))), .ref os, .int (iz (((k : Nat) : Int))), .int (iz (dn)), .int (iz (pu)), .int (iz (lo2)), .int (iz (sp2)), .int (iz (lv2)), .int (iz (wa)), .ref mt, .ref cn])), (pd, .inl (T 0, 80, .inl (zA P))), (os, .inl (T 0, 205, .inl (zA (zup O (5 * k) (pd_s P n i)))))] H := hP
    have hD : va_D A [(mm, .inr (7, [.ref nw, .ref pa, .int (iz (kp)), .ref zl, .ref hd, .ref pd, .int (iz (((n : Nat) : Int))), .int (iz (((i : Nat) : Int))), .ref os, .int (iz (((k : Nat) : Int))), .int (iz (dn)), .int (iz (pu)), .int (iz (lo2)), .int (iz (sp2)), .int (iz (lv2)), .int (iz (wa)), .ref mt, .ref cn])), (pd, .inl (T 0, 80, .inl (zA P))), (os, .inl (T 0, 205, .inl (zA (zup O (5 * k) (pd_s P n i)))))] := hD
    refine lv_iload_n hx hb dX7_isOrder_37 rfl (lv_at hl 0 rfl) ?_
    rcases (show (pd_s P n i) = 97 ∨ (pd_s P n i) = 99 ∨ (pd_s P n i) = 105 ∨ (pd_s P n i) = 112 ∨ (pd_s P n i) = 117 ∨ ((pd_s P n i) ≠ 97 ∧ (pd_s P n i) ≠ 99 ∧ (pd_s P n i) ≠ 105 ∧ (pd_s P n i) ≠ 112 ∧ (pd_s P n i) ≠ 117) from (by omega)) with hs38 | hs38 | hs38 | hs38 | hs38 | hs38
    · refine kz_lookIn (v := 97) (tgt := 88) (off := 50) hx hb dX7_isOrder_38 (by decide) hs38 (by decide) (by decide) (by decide) ?_
      refine lv_aload_n hx hb dX7_isOrder_88 rfl (lv_at hl 1 rfl) ?_
      refine lv_dup hx hb dX7_isOrder_89 rfl ?_
      refine va_get (D := D) (ci := 7) (C := RX7) (T := TX7) (N := 18) hx hb hts w1 hown hK.1 hP 0 rfl rfl 7 (by decide) w0 (fun _ h9 => h9) rfl dX7_isOrder_90 ?_
      refine lv_iconst (v := iz (1)) hx hb dX7_isOrder_93 (by decide) ?_
      refine kz_add hx hb dX7_isOrder_94 ?_
      refine kz_top (y := ((i + 1 : Nat) : Int)) (by omega) ?_
      refine va_put (D := D) (ci := 7) (v := .int (iz (((i + 1 : Nat) : Int)))) (ty := .int) (C := RX7) (T := TX7) (N := 18) hx hb hts w1 tyX7 tyX7_ok nmX7 hown hK.1 hP hD hS 0 rfl rfl 7 (by decide) w0 (fun _ h9 => h9) rfl (by decide +kernel) rfl rfl (Nat.le_of_ble_eq_true rfl) dX7_isOrder_95 (fun H locs hP hD hS => ?_)
      have hP : va_P D vwCl [(mm, .inr (7, [.ref nw, .ref pa, .int (iz (kp)), .ref zl, .ref hd, .ref pd, .int (iz (((n : Nat) : Int))), .int (iz (((i + 1 : Nat) : Int))), .ref os, .int (iz (((k : Nat) : Int))), .int (iz (dn)), .int (iz (pu)), .int (iz (lo2)), .int (iz (sp2)), .int (iz (lv2)), .int (iz (wa)), .ref mt, .ref cn])), (pd, .inl (T 0, 80, .inl (zA P))), (os, .inl (T 0, 205, .inl (zA (zup O (5 * k) (pd_s P n i)))))] H := hP
      have hD : va_D A [(mm, .inr (7, [.ref nw, .ref pa, .int (iz (kp)), .ref zl, .ref hd, .ref pd, .int (iz (((n : Nat) : Int))), .int (iz (((i + 1 : Nat) : Int))), .ref os, .int (iz (((k : Nat) : Int))), .int (iz (dn)), .int (iz (pu)), .int (iz (lo2)), .int (iz (sp2)), .int (iz (lv2)), .int (iz (wa)), .ref mt, .ref cn])), (pd, .inl (T 0, 80, .inl (zA P))), (os, .inl (T 0, 205, .inl (zA (zup O (5 * k) (pd_s P n i)))))] := hD
      refine lv_iconst (v := iz (1)) hx hb dX7_isOrder_98 (by decide) ?_
      have hZ : (((i + 1 : Nat) : Int) : Int) = ((po_end P n i : Nat) : Int) := (by rw [hend]; (repeat' split) <;> omega)
      have hP : va_P D vwCl [(mm, .inr (7, [.ref nw, .ref pa, .int (iz (kp)), .ref zl, .ref hd, .ref pd, .int (iz (((n : Nat) : Int))), .int (iz (((po_end P n i : Nat) : Int))), .ref os, .int (iz (((k : Nat) : Int))), .int (iz (dn)), .int (iz (pu)), .int (iz (lo2)), .int (iz (sp2)), .int (iz (lv2)), .int (iz (wa)), .ref mt, .ref cn])), (pd, .inl (T 0, 80, .inl (zA P))), (os, .inl (T 0, 205, .inl (zA (zup O (5 * k) (pd_s P n i)))))] H := by rw [← hZ]; exact hP
      have hD : va_D A [(mm, .inr (7, [.ref nw, .ref pa, .int (iz (kp)), .ref zl, .ref hd, .ref pd, .int (iz (((n : Nat) : Int))), .int (iz (((po_end P n i : Nat) : Int))), .ref os, .int (iz (((k : Nat) : Int))), .int (iz (dn)), .int (iz (pu)), .int (iz (lo2)), .int (iz (sp2)), .int (iz (lv2)), .int (iz (wa)), .ref mt, .ref cn])), (pd, .inl (T 0, 80, .inl (zA P))), (os, .inl (T 0, 205, .inl (zA (zup O (5 * k) (pd_s P n i)))))] := by rw [← hZ]; exact hD
      exact W.zret hx hb hr (kz_nar (by omega)) (fun t ht hW => ⟨⟨_, (zup O (5 * k) (pd_s P n i)), rfl, ⟨congrArg iz (by rw [hokd, if_pos (by omega)]), ⟨zup_s _ _ _, fun _ => ⟨zup_s _ _ _, fun q => by exfalso; omega, fun q => by exfalso; omega⟩⟩, fun j hj => by unfold zup; rw [if_neg (by omega)]⟩, by show va_P _ _ _ t.heap; rw [ht]; exact hP⟩, hS.F ht⟩) hS.2.2 dX7_isOrder_99
    · refine kz_lookIn (v := 99) (tgt := 126) (off := 88) hx hb dX7_isOrder_38 (by decide) hs38 (by decide) (by decide) (by decide) ?_
      refine lv_aload_n hx hb dX7_isOrder_126 rfl (lv_at hl 1 rfl) ?_
      refine lv_dup hx hb dX7_isOrder_127 rfl ?_
      refine va_get (D := D) (ci := 7) (C := RX7) (T := TX7) (N := 18) hx hb hts w1 hown hK.1 hP 0 rfl rfl 7 (by decide) w0 (fun _ h9 => h9) rfl dX7_isOrder_128 ?_
      refine lv_iconst (v := iz (1)) hx hb dX7_isOrder_131 (by decide) ?_
      refine kz_add hx hb dX7_isOrder_132 ?_
      refine kz_top (y := ((i + 1 : Nat) : Int)) (by omega) ?_
      refine va_put (D := D) (ci := 7) (v := .int (iz (((i + 1 : Nat) : Int)))) (ty := .int) (C := RX7) (T := TX7) (N := 18) hx hb hts w1 tyX7 tyX7_ok nmX7 hown hK.1 hP hD hS 0 rfl rfl 7 (by decide) w0 (fun _ h9 => h9) rfl (by decide +kernel) rfl rfl (Nat.le_of_ble_eq_true rfl) dX7_isOrder_133 (fun H locs hP hD hS => ?_)
      have hP : va_P D vwCl [(mm, .inr (7, [.ref nw, .ref pa, .int (iz (kp)), .ref zl, .ref hd, .ref pd, .int (iz (((n : Nat) : Int))), .int (iz (((i + 1 : Nat) : Int))), .ref os, .int (iz (((k : Nat) : Int))), .int (iz (dn)), .int (iz (pu)), .int (iz (lo2)), .int (iz (sp2)), .int (iz (lv2)), .int (iz (wa)), .ref mt, .ref cn])), (pd, .inl (T 0, 80, .inl (zA P))), (os, .inl (T 0, 205, .inl (zA (zup O (5 * k) (pd_s P n i)))))] H := hP
      have hD : va_D A [(mm, .inr (7, [.ref nw, .ref pa, .int (iz (kp)), .ref zl, .ref hd, .ref pd, .int (iz (((n : Nat) : Int))), .int (iz (((i + 1 : Nat) : Int))), .ref os, .int (iz (((k : Nat) : Int))), .int (iz (dn)), .int (iz (pu)), .int (iz (lo2)), .int (iz (sp2)), .int (iz (lv2)), .int (iz (wa)), .ref mt, .ref cn])), (pd, .inl (T 0, 80, .inl (zA P))), (os, .inl (T 0, 205, .inl (zA (zup O (5 * k) (pd_s P n i)))))] := hD
      refine lv_aload_n hx hb dX7_isOrder_136 rfl (lv_at hl 1 rfl) ?_
      refine kc_wi (va_runV (As := []) (rest := []) ⟨hx, hb, hml, hown, hts⟩ (c_X7_isContract l D T H.size mm nw pa kp zl hd pd os dn pu lo2 sp2 lv2 wa mt cn P n hVP (i + 1) (by omega) k (by omega) (zup O (5 * k) (pd_s P n i))) (cwV 0 hts gX7_isOrder_X7_isContract rfl rfl rfl (by decide +kernel) ⟨Nat.le_of_ble_eq_true rfl, Nat.le_of_ble_eq_true rfl⟩) (kPc.v hK (va_recv hK.1 hP (ci := 7) (q0 := 0) rfl rfl) (kW.cut hP hD [0, 1, 2] rfl (by rfl))) rfl rfl hl.1 rfl (lv_room (Nat.le_of_ble_eq_true rfl)) dX7_isOrder_137 ⟨Nat.zero_le _, Nat.zero_le _⟩) hP hD hS hA [0, 1, 2] rfl (fun _ => rfl) (fun r1 u H locs hr1 hP hD hS => ?_)
      obtain ⟨u2, rfl⟩ : ∃ z, z = u := ⟨_, rfl⟩
      have hP : va_P D vwCl [(mm, .inr (7, [.ref nw, .ref pa, .int (iz (kp)), .ref zl, .ref hd, .ref pd, .int (iz (((n : Nat) : Int))), .int (iz (((pc_end P n (i + 1) : Nat) : Int))), .ref os, .int (iz (((k : Nat) : Int))), .int (iz (dn)), .int (iz (pu)), .int (iz (lo2)), .int (iz (sp2)), .int (iz (lv2)), .int (iz (wa)), .ref mt, .ref cn])), (pd, .inl (T 0, 80, .inl (zA P))), (os, .inl (T 0, 205, .inl (zA u2)))] H := hP
      have hD : va_D A [(mm, .inr (7, [.ref nw, .ref pa, .int (iz (kp)), .ref zl, .ref hd, .ref pd, .int (iz (((n : Nat) : Int))), .int (iz (((pc_end P n (i + 1) : Nat) : Int))), .ref os, .int (iz (((k : Nat) : Int))), .int (iz (dn)), .int (iz (pu)), .int (iz (lo2)), .int (iz (sp2)), .int (iz (lv2)), .int (iz (wa)), .ref mt, .ref cn])), (pd, .inl (T 0, 80, .inl (zA P))), (os, .inl (T 0, 205, .inl (zA u2)))] := hD
      obtain ⟨rfl, hr1⟩ := hr1
      try dsimp only at hr1
      have hct := hr1
      have hZ : (((pc_end P n (i + 1) : Nat) : Int) : Int) = ((po_end P n i : Nat) : Int) := (by rw [hend, if_neg (by omega), if_pos (by omega)])
      have hP : va_P D vwCl [(mm, .inr (7, [.ref nw, .ref pa, .int (iz (kp)), .ref zl, .ref hd, .ref pd, .int (iz (((n : Nat) : Int))), .int (iz (((po_end P n i : Nat) : Int))), .ref os, .int (iz (((k : Nat) : Int))), .int (iz (dn)), .int (iz (pu)), .int (iz (lo2)), .int (iz (sp2)), .int (iz (lv2)), .int (iz (wa)), .ref mt, .ref cn])), (pd, .inl (T 0, 80, .inl (zA P))), (os, .inl (T 0, 205, .inl (zA u2)))] H := by rw [← hZ]; exact hP
      have hD : va_D A [(mm, .inr (7, [.ref nw, .ref pa, .int (iz (kp)), .ref zl, .ref hd, .ref pd, .int (iz (((n : Nat) : Int))), .int (iz (((po_end P n i : Nat) : Int))), .ref os, .int (iz (((k : Nat) : Int))), .int (iz (dn)), .int (iz (pu)), .int (iz (lo2)), .int (iz (sp2)), .int (iz (lv2)), .int (iz (wa)), .ref mt, .ref cn])), (pd, .inl (T 0, 80, .inl (zA P))), (os, .inl (T 0, 205, .inl (zA u2)))] := by rw [← hZ]; exact hD
      exact W.zret hx hb hr (kz_nar (by omega)) (fun t ht hW => ⟨⟨_, u2, rfl, ⟨congrArg iz (by rw [hokd, if_neg (by omega), if_pos (by omega)]), ⟨(OD_of hct.2).1, fun q => ⟨(OD_of hct.2).1, fun _ => hct.1 (by rw [hokd, if_neg (by omega), if_pos (by omega)] at q; exact q), fun _ q2 => by exfalso; omega⟩⟩, (OD_of hct.2).2⟩, by show va_P _ _ _ t.heap; rw [ht]; exact hP⟩, hS.F ht⟩) hS.2.2 dX7_isOrder_140
    · refine kz_lookIn (v := 105) (tgt := 100) (off := 62) hx hb dX7_isOrder_38 (by decide) hs38 (by decide) (by decide) (by decide) ?_
      refine lv_aload_n hx hb dX7_isOrder_100 rfl (lv_at hl 1 rfl) ?_
      refine lv_dup hx hb dX7_isOrder_101 rfl ?_
      refine va_get (D := D) (ci := 7) (C := RX7) (T := TX7) (N := 18) hx hb hts w1 hown hK.1 hP 0 rfl rfl 7 (by decide) w0 (fun _ h9 => h9) rfl dX7_isOrder_102 ?_
      refine lv_iconst (v := iz (1)) hx hb dX7_isOrder_105 (by decide) ?_
      refine kz_add hx hb dX7_isOrder_106 ?_
      refine kz_top (y := ((i + 1 : Nat) : Int)) (by omega) ?_
      refine va_put (D := D) (ci := 7) (v := .int (iz (((i + 1 : Nat) : Int)))) (ty := .int) (C := RX7) (T := TX7) (N := 18) hx hb hts w1 tyX7 tyX7_ok nmX7 hown hK.1 hP hD hS 0 rfl rfl 7 (by decide) w0 (fun _ h9 => h9) rfl (by decide +kernel) rfl rfl (Nat.le_of_ble_eq_true rfl) dX7_isOrder_107 (fun H locs hP hD hS => ?_)
      have hP : va_P D vwCl [(mm, .inr (7, [.ref nw, .ref pa, .int (iz (kp)), .ref zl, .ref hd, .ref pd, .int (iz (((n : Nat) : Int))), .int (iz (((i + 1 : Nat) : Int))), .ref os, .int (iz (((k : Nat) : Int))), .int (iz (dn)), .int (iz (pu)), .int (iz (lo2)), .int (iz (sp2)), .int (iz (lv2)), .int (iz (wa)), .ref mt, .ref cn])), (pd, .inl (T 0, 80, .inl (zA P))), (os, .inl (T 0, 205, .inl (zA (zup O (5 * k) (pd_s P n i)))))] H := hP
      have hD : va_D A [(mm, .inr (7, [.ref nw, .ref pa, .int (iz (kp)), .ref zl, .ref hd, .ref pd, .int (iz (((n : Nat) : Int))), .int (iz (((i + 1 : Nat) : Int))), .ref os, .int (iz (((k : Nat) : Int))), .int (iz (dn)), .int (iz (pu)), .int (iz (lo2)), .int (iz (sp2)), .int (iz (lv2)), .int (iz (wa)), .ref mt, .ref cn])), (pd, .inl (T 0, 80, .inl (zA P))), (os, .inl (T 0, 205, .inl (zA (zup O (5 * k) (pd_s P n i)))))] := hD
      refine lv_aload_n hx hb dX7_isOrder_110 rfl (lv_at hl 1 rfl) ?_
      refine lv_iload_n hx hb dX7_isOrder_111 rfl (lv_at hl 0 rfl) ?_
      refine lv_bipush (v := iz (117)) hx hb dX7_isOrder_112 (by decide) ?_
      refine kz_icmp_ne (tgt := 121) hx hb dX7_isOrder_114 (by decide) (by omega) (by omega) (fun c114 => ?_) (fun c114 => ?_)
      · refine lv_iconst (v := iz (0)) hx hb dX7_isOrder_121 (by decide) ?_
        refine kc_wi (va_runV (As := [.int (iz (0))]) (rest := []) ⟨hx, hb, hml, hown, hts⟩ (c_X7_isSpan l D T H.size mm nw pa kp zl hd pd os dn pu lo2 sp2 lv2 wa mt cn P n hVP (i + 1) (by omega) k (by omega) (zup O (5 * k) (pd_s P n i)) (pd_s P n i) 0 (by (repeat' split) <;> omega)) (cwV 1 hts gX7_isOrder_X7_isSpan rfl rfl rfl (by decide +kernel) ⟨Nat.le_of_ble_eq_true rfl, Nat.le_of_ble_eq_true rfl⟩) (kPc.v hK (va_recv hK.1 hP (ci := 7) (q0 := 0) rfl rfl) (kW.cut hP hD [0, 1, 2] rfl (by rfl))) rfl rfl hl.1 rfl (lv_room (Nat.le_of_ble_eq_true rfl)) dX7_isOrder_122 ⟨Nat.zero_le _, Nat.zero_le _⟩) hP hD hS hA [0, 1, 2] rfl (fun _ => rfl) (fun r3 u H locs hr3 hP hD hS => ?_)
        obtain ⟨u4, rfl⟩ : ∃ z, z = u := ⟨_, rfl⟩
        have hP : va_P D vwCl [(mm, .inr (7, [.ref nw, .ref pa, .int (iz (kp)), .ref zl, .ref hd, .ref pd, .int (iz (((n : Nat) : Int))), .int (iz (((ps_end P n (pd_s P n i) (i + 1) : Nat) : Int))), .ref os, .int (iz (((k : Nat) : Int))), .int (iz (dn)), .int (iz (pu)), .int (iz (lo2)), .int (iz (sp2)), .int (iz (lv2)), .int (iz (wa)), .ref mt, .ref cn])), (pd, .inl (T 0, 80, .inl (zA P))), (os, .inl (T 0, 205, .inl (zA u4)))] H := hP
        have hD : va_D A [(mm, .inr (7, [.ref nw, .ref pa, .int (iz (kp)), .ref zl, .ref hd, .ref pd, .int (iz (((n : Nat) : Int))), .int (iz (((ps_end P n (pd_s P n i) (i + 1) : Nat) : Int))), .ref os, .int (iz (((k : Nat) : Int))), .int (iz (dn)), .int (iz (pu)), .int (iz (lo2)), .int (iz (sp2)), .int (iz (lv2)), .int (iz (wa)), .ref mt, .ref cn])), (pd, .inl (T 0, 80, .inl (zA P))), (os, .inl (T 0, 205, .inl (zA u4)))] := hD
        obtain ⟨rfl, hr3⟩ := hr3
        try dsimp only at hr3
        have hsp := hr3
        have hZ : (((ps_end P n (pd_s P n i) (i + 1) : Nat) : Int) : Int) = ((po_end P n i : Nat) : Int) := (by rw [hend, if_neg (by omega), if_neg (by omega), if_pos (by omega)])
        have hP : va_P D vwCl [(mm, .inr (7, [.ref nw, .ref pa, .int (iz (kp)), .ref zl, .ref hd, .ref pd, .int (iz (((n : Nat) : Int))), .int (iz (((po_end P n i : Nat) : Int))), .ref os, .int (iz (((k : Nat) : Int))), .int (iz (dn)), .int (iz (pu)), .int (iz (lo2)), .int (iz (sp2)), .int (iz (lv2)), .int (iz (wa)), .ref mt, .ref cn])), (pd, .inl (T 0, 80, .inl (zA P))), (os, .inl (T 0, 205, .inl (zA u4)))] H := by rw [← hZ]; exact hP
        have hD : va_D A [(mm, .inr (7, [.ref nw, .ref pa, .int (iz (kp)), .ref zl, .ref hd, .ref pd, .int (iz (((n : Nat) : Int))), .int (iz (((po_end P n i : Nat) : Int))), .ref os, .int (iz (((k : Nat) : Int))), .int (iz (dn)), .int (iz (pu)), .int (iz (lo2)), .int (iz (sp2)), .int (iz (lv2)), .int (iz (wa)), .ref mt, .ref cn])), (pd, .inl (T 0, 80, .inl (zA P))), (os, .inl (T 0, 205, .inl (zA u4)))] := by rw [← hZ]; exact hD
        exact W.zret hx hb hr (kz_nar (by omega)) (fun t ht hW => ⟨⟨_, u4, rfl, ⟨congrArg iz (by rw [hokd, if_neg (by omega), if_neg (by omega), if_pos (by omega)]), ⟨(OD_of hsp.2).1, fun q => ⟨(OD_of hsp.2).1, fun q2 => by exfalso; omega, fun _ _ => hsp.1 (by rw [hokd, if_neg (by omega), if_neg (by omega), if_pos (by omega)] at q; exact q)⟩⟩, (OD_of hsp.2).2⟩, by show va_P _ _ _ t.heap; rw [ht]; exact hP⟩, hS.F ht⟩) hS.2.2 dX7_isOrder_125
      · refine lv_iconst (v := iz (1)) hx hb dX7_isOrder_117 (by decide) ?_
        refine lv_goto (tgt := 122) hx hb dX7_isOrder_118 (by decide) ?_
        refine kc_wi (va_runV (As := [.int (iz (1))]) (rest := []) ⟨hx, hb, hml, hown, hts⟩ (c_X7_isSpan l D T H.size mm nw pa kp zl hd pd os dn pu lo2 sp2 lv2 wa mt cn P n hVP (i + 1) (by omega) k (by omega) (zup O (5 * k) (pd_s P n i)) (pd_s P n i) 1 (by (repeat' split) <;> omega)) (cwV 1 hts gX7_isOrder_X7_isSpan rfl rfl rfl (by decide +kernel) ⟨Nat.le_of_ble_eq_true rfl, Nat.le_of_ble_eq_true rfl⟩) (kPc.v hK (va_recv hK.1 hP (ci := 7) (q0 := 0) rfl rfl) (kW.cut hP hD [0, 1, 2] rfl (by rfl))) rfl rfl hl.1 rfl (lv_room (Nat.le_of_ble_eq_true rfl)) dX7_isOrder_122 ⟨Nat.zero_le _, Nat.zero_le _⟩) hP hD hS hA [0, 1, 2] rfl (fun _ => rfl) (fun r5 u H locs hr5 hP hD hS => ?_)
        obtain ⟨u6, rfl⟩ : ∃ z, z = u := ⟨_, rfl⟩
        have hP : va_P D vwCl [(mm, .inr (7, [.ref nw, .ref pa, .int (iz (kp)), .ref zl, .ref hd, .ref pd, .int (iz (((n : Nat) : Int))), .int (iz (((ps_end P n (pd_s P n i) (i + 1) : Nat) : Int))), .ref os, .int (iz (((k : Nat) : Int))), .int (iz (dn)), .int (iz (pu)), .int (iz (lo2)), .int (iz (sp2)), .int (iz (lv2)), .int (iz (wa)), .ref mt, .ref cn])), (pd, .inl (T 0, 80, .inl (zA P))), (os, .inl (T 0, 205, .inl (zA u6)))] H := hP
        have hD : va_D A [(mm, .inr (7, [.ref nw, .ref pa, .int (iz (kp)), .ref zl, .ref hd, .ref pd, .int (iz (((n : Nat) : Int))), .int (iz (((ps_end P n (pd_s P n i) (i + 1) : Nat) : Int))), .ref os, .int (iz (((k : Nat) : Int))), .int (iz (dn)), .int (iz (pu)), .int (iz (lo2)), .int (iz (sp2)), .int (iz (lv2)), .int (iz (wa)), .ref mt, .ref cn])), (pd, .inl (T 0, 80, .inl (zA P))), (os, .inl (T 0, 205, .inl (zA u6)))] := hD
        obtain ⟨rfl, hr5⟩ := hr5
        try dsimp only at hr5
        have hsp := hr5
        have hZ : (((ps_end P n (pd_s P n i) (i + 1) : Nat) : Int) : Int) = ((po_end P n i : Nat) : Int) := (by rw [hend, if_neg (by omega), if_neg (by omega), if_pos (by omega)])
        have hP : va_P D vwCl [(mm, .inr (7, [.ref nw, .ref pa, .int (iz (kp)), .ref zl, .ref hd, .ref pd, .int (iz (((n : Nat) : Int))), .int (iz (((po_end P n i : Nat) : Int))), .ref os, .int (iz (((k : Nat) : Int))), .int (iz (dn)), .int (iz (pu)), .int (iz (lo2)), .int (iz (sp2)), .int (iz (lv2)), .int (iz (wa)), .ref mt, .ref cn])), (pd, .inl (T 0, 80, .inl (zA P))), (os, .inl (T 0, 205, .inl (zA u6)))] H := by rw [← hZ]; exact hP
        have hD : va_D A [(mm, .inr (7, [.ref nw, .ref pa, .int (iz (kp)), .ref zl, .ref hd, .ref pd, .int (iz (((n : Nat) : Int))), .int (iz (((po_end P n i : Nat) : Int))), .ref os, .int (iz (((k : Nat) : Int))), .int (iz (dn)), .int (iz (pu)), .int (iz (lo2)), .int (iz (sp2)), .int (iz (lv2)), .int (iz (wa)), .ref mt, .ref cn])), (pd, .inl (T 0, 80, .inl (zA P))), (os, .inl (T 0, 205, .inl (zA u6)))] := by rw [← hZ]; exact hD
        exact W.zret hx hb hr (kz_nar (by omega)) (fun t ht hW => ⟨⟨_, u6, rfl, ⟨congrArg iz (by rw [hokd, if_neg (by omega), if_neg (by omega), if_pos (by omega)]), ⟨(OD_of hsp.2).1, fun q => ⟨(OD_of hsp.2).1, fun q2 => by exfalso; omega, fun _ _ => hsp.1 (by rw [hokd, if_neg (by omega), if_neg (by omega), if_pos (by omega)] at q; exact q)⟩⟩, (OD_of hsp.2).2⟩, by show va_P _ _ _ t.heap; rw [ht]; exact hP⟩, hS.F ht⟩) hS.2.2 dX7_isOrder_125
    · refine kz_lookIn (v := 112) (tgt := 100) (off := 62) hx hb dX7_isOrder_38 (by decide) hs38 (by decide) (by decide) (by decide) ?_
      refine lv_aload_n hx hb dX7_isOrder_100 rfl (lv_at hl 1 rfl) ?_
      refine lv_dup hx hb dX7_isOrder_101 rfl ?_
      refine va_get (D := D) (ci := 7) (C := RX7) (T := TX7) (N := 18) hx hb hts w1 hown hK.1 hP 0 rfl rfl 7 (by decide) w0 (fun _ h9 => h9) rfl dX7_isOrder_102 ?_
      refine lv_iconst (v := iz (1)) hx hb dX7_isOrder_105 (by decide) ?_
      refine kz_add hx hb dX7_isOrder_106 ?_
      refine kz_top (y := ((i + 1 : Nat) : Int)) (by omega) ?_
      refine va_put (D := D) (ci := 7) (v := .int (iz (((i + 1 : Nat) : Int)))) (ty := .int) (C := RX7) (T := TX7) (N := 18) hx hb hts w1 tyX7 tyX7_ok nmX7 hown hK.1 hP hD hS 0 rfl rfl 7 (by decide) w0 (fun _ h9 => h9) rfl (by decide +kernel) rfl rfl (Nat.le_of_ble_eq_true rfl) dX7_isOrder_107 (fun H locs hP hD hS => ?_)
      have hP : va_P D vwCl [(mm, .inr (7, [.ref nw, .ref pa, .int (iz (kp)), .ref zl, .ref hd, .ref pd, .int (iz (((n : Nat) : Int))), .int (iz (((i + 1 : Nat) : Int))), .ref os, .int (iz (((k : Nat) : Int))), .int (iz (dn)), .int (iz (pu)), .int (iz (lo2)), .int (iz (sp2)), .int (iz (lv2)), .int (iz (wa)), .ref mt, .ref cn])), (pd, .inl (T 0, 80, .inl (zA P))), (os, .inl (T 0, 205, .inl (zA (zup O (5 * k) (pd_s P n i)))))] H := hP
      have hD : va_D A [(mm, .inr (7, [.ref nw, .ref pa, .int (iz (kp)), .ref zl, .ref hd, .ref pd, .int (iz (((n : Nat) : Int))), .int (iz (((i + 1 : Nat) : Int))), .ref os, .int (iz (((k : Nat) : Int))), .int (iz (dn)), .int (iz (pu)), .int (iz (lo2)), .int (iz (sp2)), .int (iz (lv2)), .int (iz (wa)), .ref mt, .ref cn])), (pd, .inl (T 0, 80, .inl (zA P))), (os, .inl (T 0, 205, .inl (zA (zup O (5 * k) (pd_s P n i)))))] := hD
      refine lv_aload_n hx hb dX7_isOrder_110 rfl (lv_at hl 1 rfl) ?_
      refine lv_iload_n hx hb dX7_isOrder_111 rfl (lv_at hl 0 rfl) ?_
      refine lv_bipush (v := iz (117)) hx hb dX7_isOrder_112 (by decide) ?_
      refine kz_icmp_ne (tgt := 121) hx hb dX7_isOrder_114 (by decide) (by omega) (by omega) (fun c114 => ?_) (fun c114 => ?_)
      · refine lv_iconst (v := iz (0)) hx hb dX7_isOrder_121 (by decide) ?_
        refine kc_wi (va_runV (As := [.int (iz (0))]) (rest := []) ⟨hx, hb, hml, hown, hts⟩ (c_X7_isSpan l D T H.size mm nw pa kp zl hd pd os dn pu lo2 sp2 lv2 wa mt cn P n hVP (i + 1) (by omega) k (by omega) (zup O (5 * k) (pd_s P n i)) (pd_s P n i) 0 (by (repeat' split) <;> omega)) (cwV 1 hts gX7_isOrder_X7_isSpan rfl rfl rfl (by decide +kernel) ⟨Nat.le_of_ble_eq_true rfl, Nat.le_of_ble_eq_true rfl⟩) (kPc.v hK (va_recv hK.1 hP (ci := 7) (q0 := 0) rfl rfl) (kW.cut hP hD [0, 1, 2] rfl (by rfl))) rfl rfl hl.1 rfl (lv_room (Nat.le_of_ble_eq_true rfl)) dX7_isOrder_122 ⟨Nat.zero_le _, Nat.zero_le _⟩) hP hD hS hA [0, 1, 2] rfl (fun _ => rfl) (fun r7 u H locs hr7 hP hD hS => ?_)
        obtain ⟨u8, rfl⟩ : ∃ z, z = u := ⟨_, rfl⟩
        have hP : va_P D vwCl [(mm, .inr (7, [.ref nw, .ref pa, .int (iz (kp)), .ref zl, .ref hd, .ref pd, .int (iz (((n : Nat) : Int))), .int (iz (((ps_end P n (pd_s P n i) (i + 1) : Nat) : Int))), .ref os, .int (iz (((k : Nat) : Int))), .int (iz (dn)), .int (iz (pu)), .int (iz (lo2)), .int (iz (sp2)), .int (iz (lv2)), .int (iz (wa)), .ref mt, .ref cn])), (pd, .inl (T 0, 80, .inl (zA P))), (os, .inl (T 0, 205, .inl (zA u8)))] H := hP
        have hD : va_D A [(mm, .inr (7, [.ref nw, .ref pa, .int (iz (kp)), .ref zl, .ref hd, .ref pd, .int (iz (((n : Nat) : Int))), .int (iz (((ps_end P n (pd_s P n i) (i + 1) : Nat) : Int))), .ref os, .int (iz (((k : Nat) : Int))), .int (iz (dn)), .int (iz (pu)), .int (iz (lo2)), .int (iz (sp2)), .int (iz (lv2)), .int (iz (wa)), .ref mt, .ref cn])), (pd, .inl (T 0, 80, .inl (zA P))), (os, .inl (T 0, 205, .inl (zA u8)))] := hD
        obtain ⟨rfl, hr7⟩ := hr7
        try dsimp only at hr7
        have hsp := hr7
        have hZ : (((ps_end P n (pd_s P n i) (i + 1) : Nat) : Int) : Int) = ((po_end P n i : Nat) : Int) := (by rw [hend, if_neg (by omega), if_neg (by omega), if_pos (by omega)])
        have hP : va_P D vwCl [(mm, .inr (7, [.ref nw, .ref pa, .int (iz (kp)), .ref zl, .ref hd, .ref pd, .int (iz (((n : Nat) : Int))), .int (iz (((po_end P n i : Nat) : Int))), .ref os, .int (iz (((k : Nat) : Int))), .int (iz (dn)), .int (iz (pu)), .int (iz (lo2)), .int (iz (sp2)), .int (iz (lv2)), .int (iz (wa)), .ref mt, .ref cn])), (pd, .inl (T 0, 80, .inl (zA P))), (os, .inl (T 0, 205, .inl (zA u8)))] H := by rw [← hZ]; exact hP
        have hD : va_D A [(mm, .inr (7, [.ref nw, .ref pa, .int (iz (kp)), .ref zl, .ref hd, .ref pd, .int (iz (((n : Nat) : Int))), .int (iz (((po_end P n i : Nat) : Int))), .ref os, .int (iz (((k : Nat) : Int))), .int (iz (dn)), .int (iz (pu)), .int (iz (lo2)), .int (iz (sp2)), .int (iz (lv2)), .int (iz (wa)), .ref mt, .ref cn])), (pd, .inl (T 0, 80, .inl (zA P))), (os, .inl (T 0, 205, .inl (zA u8)))] := by rw [← hZ]; exact hD
        exact W.zret hx hb hr (kz_nar (by omega)) (fun t ht hW => ⟨⟨_, u8, rfl, ⟨congrArg iz (by rw [hokd, if_neg (by omega), if_neg (by omega), if_pos (by omega)]), ⟨(OD_of hsp.2).1, fun q => ⟨(OD_of hsp.2).1, fun q2 => by exfalso; omega, fun _ _ => hsp.1 (by rw [hokd, if_neg (by omega), if_neg (by omega), if_pos (by omega)] at q; exact q)⟩⟩, (OD_of hsp.2).2⟩, by show va_P _ _ _ t.heap; rw [ht]; exact hP⟩, hS.F ht⟩) hS.2.2 dX7_isOrder_125
      · refine lv_iconst (v := iz (1)) hx hb dX7_isOrder_117 (by decide) ?_
        refine lv_goto (tgt := 122) hx hb dX7_isOrder_118 (by decide) ?_
        refine kc_wi (va_runV (As := [.int (iz (1))]) (rest := []) ⟨hx, hb, hml, hown, hts⟩ (c_X7_isSpan l D T H.size mm nw pa kp zl hd pd os dn pu lo2 sp2 lv2 wa mt cn P n hVP (i + 1) (by omega) k (by omega) (zup O (5 * k) (pd_s P n i)) (pd_s P n i) 1 (by (repeat' split) <;> omega)) (cwV 1 hts gX7_isOrder_X7_isSpan rfl rfl rfl (by decide +kernel) ⟨Nat.le_of_ble_eq_true rfl, Nat.le_of_ble_eq_true rfl⟩) (kPc.v hK (va_recv hK.1 hP (ci := 7) (q0 := 0) rfl rfl) (kW.cut hP hD [0, 1, 2] rfl (by rfl))) rfl rfl hl.1 rfl (lv_room (Nat.le_of_ble_eq_true rfl)) dX7_isOrder_122 ⟨Nat.zero_le _, Nat.zero_le _⟩) hP hD hS hA [0, 1, 2] rfl (fun _ => rfl) (fun r9 u H locs hr9 hP hD hS => ?_)
        obtain ⟨u10, rfl⟩ : ∃ z, z = u := ⟨_, rfl⟩
        have hP : va_P D vwCl [(mm, .inr (7, [.ref nw, .ref pa, .int (iz (kp)), .ref zl, .ref hd, .ref pd, .int (iz (((n : Nat) : Int))), .int (iz (((ps_end P n (pd_s P n i) (i + 1) : Nat) : Int))), .ref os, .int (iz (((k : Nat) : Int))), .int (iz (dn)), .int (iz (pu)), .int (iz (lo2)), .int (iz (sp2)), .int (iz (lv2)), .int (iz (wa)), .ref mt, .ref cn])), (pd, .inl (T 0, 80, .inl (zA P))), (os, .inl (T 0, 205, .inl (zA u10)))] H := hP
        have hD : va_D A [(mm, .inr (7, [.ref nw, .ref pa, .int (iz (kp)), .ref zl, .ref hd, .ref pd, .int (iz (((n : Nat) : Int))), .int (iz (((ps_end P n (pd_s P n i) (i + 1) : Nat) : Int))), .ref os, .int (iz (((k : Nat) : Int))), .int (iz (dn)), .int (iz (pu)), .int (iz (lo2)), .int (iz (sp2)), .int (iz (lv2)), .int (iz (wa)), .ref mt, .ref cn])), (pd, .inl (T 0, 80, .inl (zA P))), (os, .inl (T 0, 205, .inl (zA u10)))] := hD
        obtain ⟨rfl, hr9⟩ := hr9
        try dsimp only at hr9
        have hsp := hr9
        have hZ : (((ps_end P n (pd_s P n i) (i + 1) : Nat) : Int) : Int) = ((po_end P n i : Nat) : Int) := (by rw [hend, if_neg (by omega), if_neg (by omega), if_pos (by omega)])
        have hP : va_P D vwCl [(mm, .inr (7, [.ref nw, .ref pa, .int (iz (kp)), .ref zl, .ref hd, .ref pd, .int (iz (((n : Nat) : Int))), .int (iz (((po_end P n i : Nat) : Int))), .ref os, .int (iz (((k : Nat) : Int))), .int (iz (dn)), .int (iz (pu)), .int (iz (lo2)), .int (iz (sp2)), .int (iz (lv2)), .int (iz (wa)), .ref mt, .ref cn])), (pd, .inl (T 0, 80, .inl (zA P))), (os, .inl (T 0, 205, .inl (zA u10)))] H := by rw [← hZ]; exact hP
        have hD : va_D A [(mm, .inr (7, [.ref nw, .ref pa, .int (iz (kp)), .ref zl, .ref hd, .ref pd, .int (iz (((n : Nat) : Int))), .int (iz (((po_end P n i : Nat) : Int))), .ref os, .int (iz (((k : Nat) : Int))), .int (iz (dn)), .int (iz (pu)), .int (iz (lo2)), .int (iz (sp2)), .int (iz (lv2)), .int (iz (wa)), .ref mt, .ref cn])), (pd, .inl (T 0, 80, .inl (zA P))), (os, .inl (T 0, 205, .inl (zA u10)))] := by rw [← hZ]; exact hD
        exact W.zret hx hb hr (kz_nar (by omega)) (fun t ht hW => ⟨⟨_, u10, rfl, ⟨congrArg iz (by rw [hokd, if_neg (by omega), if_neg (by omega), if_pos (by omega)]), ⟨(OD_of hsp.2).1, fun q => ⟨(OD_of hsp.2).1, fun q2 => by exfalso; omega, fun _ _ => hsp.1 (by rw [hokd, if_neg (by omega), if_neg (by omega), if_pos (by omega)] at q; exact q)⟩⟩, (OD_of hsp.2).2⟩, by show va_P _ _ _ t.heap; rw [ht]; exact hP⟩, hS.F ht⟩) hS.2.2 dX7_isOrder_125
    · refine kz_lookIn (v := 117) (tgt := 100) (off := 62) hx hb dX7_isOrder_38 (by decide) hs38 (by decide) (by decide) (by decide) ?_
      refine lv_aload_n hx hb dX7_isOrder_100 rfl (lv_at hl 1 rfl) ?_
      refine lv_dup hx hb dX7_isOrder_101 rfl ?_
      refine va_get (D := D) (ci := 7) (C := RX7) (T := TX7) (N := 18) hx hb hts w1 hown hK.1 hP 0 rfl rfl 7 (by decide) w0 (fun _ h9 => h9) rfl dX7_isOrder_102 ?_
      refine lv_iconst (v := iz (1)) hx hb dX7_isOrder_105 (by decide) ?_
      refine kz_add hx hb dX7_isOrder_106 ?_
      refine kz_top (y := ((i + 1 : Nat) : Int)) (by omega) ?_
      refine va_put (D := D) (ci := 7) (v := .int (iz (((i + 1 : Nat) : Int)))) (ty := .int) (C := RX7) (T := TX7) (N := 18) hx hb hts w1 tyX7 tyX7_ok nmX7 hown hK.1 hP hD hS 0 rfl rfl 7 (by decide) w0 (fun _ h9 => h9) rfl (by decide +kernel) rfl rfl (Nat.le_of_ble_eq_true rfl) dX7_isOrder_107 (fun H locs hP hD hS => ?_)
      have hP : va_P D vwCl [(mm, .inr (7, [.ref nw, .ref pa, .int (iz (kp)), .ref zl, .ref hd, .ref pd, .int (iz (((n : Nat) : Int))), .int (iz (((i + 1 : Nat) : Int))), .ref os, .int (iz (((k : Nat) : Int))), .int (iz (dn)), .int (iz (pu)), .int (iz (lo2)), .int (iz (sp2)), .int (iz (lv2)), .int (iz (wa)), .ref mt, .ref cn])), (pd, .inl (T 0, 80, .inl (zA P))), (os, .inl (T 0, 205, .inl (zA (zup O (5 * k) (pd_s P n i)))))] H := hP
      have hD : va_D A [(mm, .inr (7, [.ref nw, .ref pa, .int (iz (kp)), .ref zl, .ref hd, .ref pd, .int (iz (((n : Nat) : Int))), .int (iz (((i + 1 : Nat) : Int))), .ref os, .int (iz (((k : Nat) : Int))), .int (iz (dn)), .int (iz (pu)), .int (iz (lo2)), .int (iz (sp2)), .int (iz (lv2)), .int (iz (wa)), .ref mt, .ref cn])), (pd, .inl (T 0, 80, .inl (zA P))), (os, .inl (T 0, 205, .inl (zA (zup O (5 * k) (pd_s P n i)))))] := hD
      refine lv_aload_n hx hb dX7_isOrder_110 rfl (lv_at hl 1 rfl) ?_
      refine lv_iload_n hx hb dX7_isOrder_111 rfl (lv_at hl 0 rfl) ?_
      refine lv_bipush (v := iz (117)) hx hb dX7_isOrder_112 (by decide) ?_
      refine kz_icmp_ne (tgt := 121) hx hb dX7_isOrder_114 (by decide) (by omega) (by omega) (fun c114 => ?_) (fun c114 => ?_)
      · refine lv_iconst (v := iz (0)) hx hb dX7_isOrder_121 (by decide) ?_
        refine kc_wi (va_runV (As := [.int (iz (0))]) (rest := []) ⟨hx, hb, hml, hown, hts⟩ (c_X7_isSpan l D T H.size mm nw pa kp zl hd pd os dn pu lo2 sp2 lv2 wa mt cn P n hVP (i + 1) (by omega) k (by omega) (zup O (5 * k) (pd_s P n i)) (pd_s P n i) 0 (by (repeat' split) <;> omega)) (cwV 1 hts gX7_isOrder_X7_isSpan rfl rfl rfl (by decide +kernel) ⟨Nat.le_of_ble_eq_true rfl, Nat.le_of_ble_eq_true rfl⟩) (kPc.v hK (va_recv hK.1 hP (ci := 7) (q0 := 0) rfl rfl) (kW.cut hP hD [0, 1, 2] rfl (by rfl))) rfl rfl hl.1 rfl (lv_room (Nat.le_of_ble_eq_true rfl)) dX7_isOrder_122 ⟨Nat.zero_le _, Nat.zero_le _⟩) hP hD hS hA [0, 1, 2] rfl (fun _ => rfl) (fun r11 u H locs hr11 hP hD hS => ?_)
        obtain ⟨u12, rfl⟩ : ∃ z, z = u := ⟨_, rfl⟩
        have hP : va_P D vwCl [(mm, .inr (7, [.ref nw, .ref pa, .int (iz (kp)), .ref zl, .ref hd, .ref pd, .int (iz (((n : Nat) : Int))), .int (iz (((ps_end P n (pd_s P n i) (i + 1) : Nat) : Int))), .ref os, .int (iz (((k : Nat) : Int))), .int (iz (dn)), .int (iz (pu)), .int (iz (lo2)), .int (iz (sp2)), .int (iz (lv2)), .int (iz (wa)), .ref mt, .ref cn])), (pd, .inl (T 0, 80, .inl (zA P))), (os, .inl (T 0, 205, .inl (zA u12)))] H := hP
        have hD : va_D A [(mm, .inr (7, [.ref nw, .ref pa, .int (iz (kp)), .ref zl, .ref hd, .ref pd, .int (iz (((n : Nat) : Int))), .int (iz (((ps_end P n (pd_s P n i) (i + 1) : Nat) : Int))), .ref os, .int (iz (((k : Nat) : Int))), .int (iz (dn)), .int (iz (pu)), .int (iz (lo2)), .int (iz (sp2)), .int (iz (lv2)), .int (iz (wa)), .ref mt, .ref cn])), (pd, .inl (T 0, 80, .inl (zA P))), (os, .inl (T 0, 205, .inl (zA u12)))] := hD
        obtain ⟨rfl, hr11⟩ := hr11
        try dsimp only at hr11
        have hsp := hr11
        have hZ : (((ps_end P n (pd_s P n i) (i + 1) : Nat) : Int) : Int) = ((po_end P n i : Nat) : Int) := (by rw [hend, if_neg (by omega), if_neg (by omega), if_pos (by omega)])
        have hP : va_P D vwCl [(mm, .inr (7, [.ref nw, .ref pa, .int (iz (kp)), .ref zl, .ref hd, .ref pd, .int (iz (((n : Nat) : Int))), .int (iz (((po_end P n i : Nat) : Int))), .ref os, .int (iz (((k : Nat) : Int))), .int (iz (dn)), .int (iz (pu)), .int (iz (lo2)), .int (iz (sp2)), .int (iz (lv2)), .int (iz (wa)), .ref mt, .ref cn])), (pd, .inl (T 0, 80, .inl (zA P))), (os, .inl (T 0, 205, .inl (zA u12)))] H := by rw [← hZ]; exact hP
        have hD : va_D A [(mm, .inr (7, [.ref nw, .ref pa, .int (iz (kp)), .ref zl, .ref hd, .ref pd, .int (iz (((n : Nat) : Int))), .int (iz (((po_end P n i : Nat) : Int))), .ref os, .int (iz (((k : Nat) : Int))), .int (iz (dn)), .int (iz (pu)), .int (iz (lo2)), .int (iz (sp2)), .int (iz (lv2)), .int (iz (wa)), .ref mt, .ref cn])), (pd, .inl (T 0, 80, .inl (zA P))), (os, .inl (T 0, 205, .inl (zA u12)))] := by rw [← hZ]; exact hD
        exact W.zret hx hb hr (kz_nar (by omega)) (fun t ht hW => ⟨⟨_, u12, rfl, ⟨congrArg iz (by rw [hokd, if_neg (by omega), if_neg (by omega), if_pos (by omega)]), ⟨(OD_of hsp.2).1, fun q => ⟨(OD_of hsp.2).1, fun q2 => by exfalso; omega, fun _ _ => hsp.1 (by rw [hokd, if_neg (by omega), if_neg (by omega), if_pos (by omega)] at q; exact q)⟩⟩, (OD_of hsp.2).2⟩, by show va_P _ _ _ t.heap; rw [ht]; exact hP⟩, hS.F ht⟩) hS.2.2 dX7_isOrder_125
      · refine lv_iconst (v := iz (1)) hx hb dX7_isOrder_117 (by decide) ?_
        refine lv_goto (tgt := 122) hx hb dX7_isOrder_118 (by decide) ?_
        refine kc_wi (va_runV (As := [.int (iz (1))]) (rest := []) ⟨hx, hb, hml, hown, hts⟩ (c_X7_isSpan l D T H.size mm nw pa kp zl hd pd os dn pu lo2 sp2 lv2 wa mt cn P n hVP (i + 1) (by omega) k (by omega) (zup O (5 * k) (pd_s P n i)) (pd_s P n i) 1 (by (repeat' split) <;> omega)) (cwV 1 hts gX7_isOrder_X7_isSpan rfl rfl rfl (by decide +kernel) ⟨Nat.le_of_ble_eq_true rfl, Nat.le_of_ble_eq_true rfl⟩) (kPc.v hK (va_recv hK.1 hP (ci := 7) (q0 := 0) rfl rfl) (kW.cut hP hD [0, 1, 2] rfl (by rfl))) rfl rfl hl.1 rfl (lv_room (Nat.le_of_ble_eq_true rfl)) dX7_isOrder_122 ⟨Nat.zero_le _, Nat.zero_le _⟩) hP hD hS hA [0, 1, 2] rfl (fun _ => rfl) (fun r13 u H locs hr13 hP hD hS => ?_)
        obtain ⟨u14, rfl⟩ : ∃ z, z = u := ⟨_, rfl⟩
        have hP : va_P D vwCl [(mm, .inr (7, [.ref nw, .ref pa, .int (iz (kp)), .ref zl, .ref hd, .ref pd, .int (iz (((n : Nat) : Int))), .int (iz (((ps_end P n (pd_s P n i) (i + 1) : Nat) : Int))), .ref os, .int (iz (((k : Nat) : Int))), .int (iz (dn)), .int (iz (pu)), .int (iz (lo2)), .int (iz (sp2)), .int (iz (lv2)), .int (iz (wa)), .ref mt, .ref cn])), (pd, .inl (T 0, 80, .inl (zA P))), (os, .inl (T 0, 205, .inl (zA u14)))] H := hP
        have hD : va_D A [(mm, .inr (7, [.ref nw, .ref pa, .int (iz (kp)), .ref zl, .ref hd, .ref pd, .int (iz (((n : Nat) : Int))), .int (iz (((ps_end P n (pd_s P n i) (i + 1) : Nat) : Int))), .ref os, .int (iz (((k : Nat) : Int))), .int (iz (dn)), .int (iz (pu)), .int (iz (lo2)), .int (iz (sp2)), .int (iz (lv2)), .int (iz (wa)), .ref mt, .ref cn])), (pd, .inl (T 0, 80, .inl (zA P))), (os, .inl (T 0, 205, .inl (zA u14)))] := hD
        obtain ⟨rfl, hr13⟩ := hr13
        try dsimp only at hr13
        have hsp := hr13
        have hZ : (((ps_end P n (pd_s P n i) (i + 1) : Nat) : Int) : Int) = ((po_end P n i : Nat) : Int) := (by rw [hend, if_neg (by omega), if_neg (by omega), if_pos (by omega)])
        have hP : va_P D vwCl [(mm, .inr (7, [.ref nw, .ref pa, .int (iz (kp)), .ref zl, .ref hd, .ref pd, .int (iz (((n : Nat) : Int))), .int (iz (((po_end P n i : Nat) : Int))), .ref os, .int (iz (((k : Nat) : Int))), .int (iz (dn)), .int (iz (pu)), .int (iz (lo2)), .int (iz (sp2)), .int (iz (lv2)), .int (iz (wa)), .ref mt, .ref cn])), (pd, .inl (T 0, 80, .inl (zA P))), (os, .inl (T 0, 205, .inl (zA u14)))] H := by rw [← hZ]; exact hP
        have hD : va_D A [(mm, .inr (7, [.ref nw, .ref pa, .int (iz (kp)), .ref zl, .ref hd, .ref pd, .int (iz (((n : Nat) : Int))), .int (iz (((po_end P n i : Nat) : Int))), .ref os, .int (iz (((k : Nat) : Int))), .int (iz (dn)), .int (iz (pu)), .int (iz (lo2)), .int (iz (sp2)), .int (iz (lv2)), .int (iz (wa)), .ref mt, .ref cn])), (pd, .inl (T 0, 80, .inl (zA P))), (os, .inl (T 0, 205, .inl (zA u14)))] := by rw [← hZ]; exact hD
        exact W.zret hx hb hr (kz_nar (by omega)) (fun t ht hW => ⟨⟨_, u14, rfl, ⟨congrArg iz (by rw [hokd, if_neg (by omega), if_neg (by omega), if_pos (by omega)]), ⟨(OD_of hsp.2).1, fun q => ⟨(OD_of hsp.2).1, fun q2 => by exfalso; omega, fun _ _ => hsp.1 (by rw [hokd, if_neg (by omega), if_neg (by omega), if_pos (by omega)] at q; exact q)⟩⟩, (OD_of hsp.2).2⟩, by show va_P _ _ _ t.heap; rw [ht]; exact hP⟩, hS.F ht⟩) hS.2.2 dX7_isOrder_125
    · refine kz_lookOut (tgt := 141) hx hb dX7_isOrder_38 (by decide) (by omega) (by obtain ⟨q0, q1, q2, q3, q4⟩ := hs38; simp only [Op.lookupswitch.offset, if_neg (Ne.symm q0), if_neg (Ne.symm q1), if_neg (Ne.symm q2), if_neg (Ne.symm q3), if_neg (Ne.symm q4)]) (by decide) ?_
      refine lv_iconst (v := iz (0)) hx hb dX7_isOrder_141 (by decide) ?_
      have hZ : (((i : Nat) : Int) : Int) = ((po_end P n i : Nat) : Int) := (by rw [hend]; (repeat' split) <;> omega)
      have hP : va_P D vwCl [(mm, .inr (7, [.ref nw, .ref pa, .int (iz (kp)), .ref zl, .ref hd, .ref pd, .int (iz (((n : Nat) : Int))), .int (iz (((po_end P n i : Nat) : Int))), .ref os, .int (iz (((k : Nat) : Int))), .int (iz (dn)), .int (iz (pu)), .int (iz (lo2)), .int (iz (sp2)), .int (iz (lv2)), .int (iz (wa)), .ref mt, .ref cn])), (pd, .inl (T 0, 80, .inl (zA P))), (os, .inl (T 0, 205, .inl (zA (zup O (5 * k) (pd_s P n i)))))] H := by rw [← hZ]; exact hP
      have hD : va_D A [(mm, .inr (7, [.ref nw, .ref pa, .int (iz (kp)), .ref zl, .ref hd, .ref pd, .int (iz (((n : Nat) : Int))), .int (iz (((po_end P n i : Nat) : Int))), .ref os, .int (iz (((k : Nat) : Int))), .int (iz (dn)), .int (iz (pu)), .int (iz (lo2)), .int (iz (sp2)), .int (iz (lv2)), .int (iz (wa)), .ref mt, .ref cn])), (pd, .inl (T 0, 80, .inl (zA P))), (os, .inl (T 0, 205, .inl (zA (zup O (5 * k) (pd_s P n i)))))] := by rw [← hZ]; exact hD
      exact W.zret hx hb hr (kz_nar (by omega)) (fun t ht hW => ⟨⟨_, (zup O (5 * k) (pd_s P n i)), rfl, ⟨congrArg iz (by rw [hokd, if_neg (by omega), if_neg (by omega), if_neg (by omega)]), ⟨zup_s _ _ _, fun q => by rw [hokd, if_neg (by omega), if_neg (by omega), if_neg (by omega)] at q; omega⟩, fun j hj => by unfold zup; rw [if_neg (by omega)]⟩, by show va_P _ _ _ t.heap; rw [ht]; exact hP⟩, hS.F ht⟩) hS.2.2 dX7_isOrder_142
set_option maxHeartbeats 4000000 in
set_option maxRecDepth 100000 in
theorem c_X7_isText (l : Launch) (D : va_G) (T : Nat → ClassId) (sz : Nat) (mm : Nat) (nw : Nat) (pa : Nat) (kp : Int) (zl : Nat) (hd : Nat) (pd : Nat) (at0 : Int) (os : Nat) (od : Int) (dn : Int) (pu : Int) (lo2 : Int) (sp2 : Int) (lv2 : Int) (wa : Int) (mt : Nat) (cn : Nat) (P : Nat → Int) (n : Nat) (hVP : VP P n) (O : Nat → Int) : Met l yX7_isText wsX7_isText ({ frames := 5, cells := 0, slots := 0, locals := 110 }) (kPc D T [.ref mm] (kW D sz [(mm, .inr (7, [.ref nw, .ref pa, .int (iz (kp)), .ref zl, .ref hd, .ref pd, .int (iz (((n : Nat) : Int))), .int (iz (at0)), .ref os, .int (iz (od)), .int (iz (dn)), .int (iz (pu)), .int (iz (lo2)), .int (iz (sp2)), .int (iz (lv2)), .int (iz (wa)), .ref mt, .ref cn])), (pd, .inl (T 0, 80, .inl (zA P))), (os, .inl (T 0, 205, .inl (zA O)))])) (va_Qi (fun (r : Int32) (u : Int × Int × (Nat → Int)) => r = iz (if pd_fault P n = -6 then 1 else 0) ∧ (pd_fault P n ≠ -6 → u.1 = pd_fault P n) ∧ (pd_fault P n = -6 → ∃ m : Nat, u.2.1 = (m : Int) ∧ TX P n u.2.2 m)) (fun (u : Int × Int × (Nat → Int)) (t : State) => va_P D vwCl [(mm, .inr (7, [.ref nw, .ref pa, .int (iz (kp)), .ref zl, .ref hd, .ref pd, .int (iz (((n : Nat) : Int))), .int (iz (u.1)), .ref os, .int (iz (u.2.1)), .int (iz (dn)), .int (iz (pu)), .int (iz (lo2)), .int (iz (sp2)), .int (iz (lv2)), .int (iz (wa)), .ref mt, .ref cn])), (pd, .inl (T 0, 80, .inl (zA P))), (os, .inl (T 0, 205, .inl (zA u.2.2)))] t.heap) (va_A [(mm, .inr (7, [.ref nw, .ref pa, .int (iz (kp)), .ref zl, .ref hd, .ref pd, .int (iz (((n : Nat) : Int))), .int (iz (at0)), .ref os, .int (iz (od)), .int (iz (dn)), .int (iz (pu)), .int (iz (lo2)), .int (iz (sp2)), .int (iz (lv2)), .int (iz (wa)), .ref mt, .ref cn])), (pd, .inl (T 0, 80, .inl (zA P))), (os, .inl (T 0, 205, .inl (zA O)))] sz)) 0 0 (va_A [(mm, .inr (7, [.ref nw, .ref pa, .int (iz (kp)), .ref zl, .ref hd, .ref pd, .int (iz (((n : Nat) : Int))), .int (iz (at0)), .ref os, .int (iz (od)), .int (iz (dn)), .int (iz (pu)), .int (iz (lo2)), .int (iz (sp2)), .int (iz (lv2)), .int (iz (wa)), .ref mt, .ref cn])), (pd, .inl (T 0, 80, .inl (zA P))), (os, .inl (T 0, 205, .inl (zA O)))] sz) := by
  refine Met.ofW (cc := cX7_isText) (maxL := 2) (ret := (some .boolean)) (by decide) rfl ?_
  intro p e s m args below meth c s₁ B hml hv
  obtain ⟨rfl, hK, hsz, hP, hD0⟩ := hv
  have hx := B.exec
  have hb := B.bytes
  have hr := B.returns
  have hts := atoms_spec (ws := wsX7_isText) B.pre
  have hown : s.vm.findClass RX7 = some m.cls := findClass_of_methodNamed B.named
  have hlocks := B.notSynchronized
  have w0 := hts (.fieldLink RX7 165 "LakePlantModel" "at" "I") (List.mem_of_getElem? (i := 1) rfl)
  have w1 : ∀ w ∈ wsX70, w ∈ wsX7_isText := by decide +kernel
  have w2 := hts (.fieldLink RX7 171 "LakePlantModel" "ordered" "I") (List.mem_of_getElem? (i := 2) rfl)
  have w3 := hts (.fieldLink RX7 152 "LakePlantModel" "padded" "I") (List.mem_of_getElem? (i := 3) rfl)
  subst hsz
  have hD := hD0.self (sz := s.heap.size)
  generalize hAe : va_A [(mm, .inr (7, [.ref nw, .ref pa, .int (iz (kp)), .ref zl, .ref hd, .ref pd, .int (iz (((n : Nat) : Int))), .int (iz (at0)), .ref os, .int (iz (od)), .int (iz (dn)), .int (iz (pu)), .int (iz (lo2)), .int (iz (sp2)), .int (iz (lv2)), .int (iz (wa)), .ref mt, .ref cn])), (pd, .inl (T 0, 80, .inl (zA P))), (os, .inl (T 0, 205, .inl (zA O)))] s.heap.size = A at hD ⊢
  have hA : ∀ q : Nat, s.heap.size ≤ q → A q := fun q h => by rw [← hAe]; exact Or.inr h
  have hS : va_S A s.heap s.heap [] := va_S.rf
  have hP : va_P D vwCl [(mm, .inr (7, [.ref nw, .ref pa, .int (iz (kp)), .ref zl, .ref hd, .ref pd, .int (iz (((n : Nat) : Int))), .int (iz (at0)), .ref os, .int (iz (od)), .int (iz (dn)), .int (iz (pu)), .int (iz (lo2)), .int (iz (sp2)), .int (iz (lv2)), .int (iz (wa)), .ref mt, .ref cn])), (pd, .inl (T 0, 80, .inl (zA P))), (os, .inl (T 0, 205, .inl (zA O)))] s.heap := hP
  have hl := lv_entry ([.ref mm]) (n := 2) (Nat.le_of_ble_eq_true rfl)
  rw [lg_entry_eq]
  generalize (lg_sl ([.ref mm]) ++ List.replicate (2 - (lg_sl ([.ref mm])).length) Slot.unset).toArray = ls at hl ⊢
  have hl : lv_has ls 2 [(0, .ref mm)] := hl
  have hn80 := hVP.1
  refine lv_aload_n hx hb dX7_isText_0 rfl (lv_at hl 0 rfl) ?_
  refine lv_iconst (v := iz (0)) hx hb dX7_isText_1 (by decide) ?_
  refine va_put (D := D) (ci := 7) (v := .int (iz (0))) (ty := .int) (C := RX7) (T := TX7) (N := 18) hx hb hts w1 tyX7 tyX7_ok nmX7 hown hK.1 hP hD hS 0 rfl rfl 7 (by decide) w0 (fun _ h9 => h9) rfl (by decide +kernel) rfl rfl (Nat.le_of_ble_eq_true rfl) dX7_isText_2 (fun H locs hP hD hS => ?_)
  have hP : va_P D vwCl [(mm, .inr (7, [.ref nw, .ref pa, .int (iz (kp)), .ref zl, .ref hd, .ref pd, .int (iz (((n : Nat) : Int))), .int (iz (0)), .ref os, .int (iz (od)), .int (iz (dn)), .int (iz (pu)), .int (iz (lo2)), .int (iz (sp2)), .int (iz (lv2)), .int (iz (wa)), .ref mt, .ref cn])), (pd, .inl (T 0, 80, .inl (zA P))), (os, .inl (T 0, 205, .inl (zA O)))] H := hP
  have hD : va_D A [(mm, .inr (7, [.ref nw, .ref pa, .int (iz (kp)), .ref zl, .ref hd, .ref pd, .int (iz (((n : Nat) : Int))), .int (iz (0)), .ref os, .int (iz (od)), .int (iz (dn)), .int (iz (pu)), .int (iz (lo2)), .int (iz (sp2)), .int (iz (lv2)), .int (iz (wa)), .ref mt, .ref cn])), (pd, .inl (T 0, 80, .inl (zA P))), (os, .inl (T 0, 205, .inl (zA O)))] := hD
  refine lv_aload_n hx hb dX7_isText_5 rfl (lv_at hl 0 rfl) ?_
  refine lv_iconst (v := iz (0)) hx hb dX7_isText_6 (by decide) ?_
  refine va_put (D := D) (ci := 7) (v := .int (iz (0))) (ty := .int) (C := RX7) (T := TX7) (N := 18) hx hb hts w1 tyX7 tyX7_ok nmX7 hown hK.1 hP hD hS 0 rfl rfl 9 (by decide) w2 (fun _ h9 => h9) rfl (by decide +kernel) rfl rfl (Nat.le_of_ble_eq_true rfl) dX7_isText_7 (fun H locs hP hD hS => ?_)
  have hP : va_P D vwCl [(mm, .inr (7, [.ref nw, .ref pa, .int (iz (kp)), .ref zl, .ref hd, .ref pd, .int (iz (((n : Nat) : Int))), .int (iz (0)), .ref os, .int (iz (0)), .int (iz (dn)), .int (iz (pu)), .int (iz (lo2)), .int (iz (sp2)), .int (iz (lv2)), .int (iz (wa)), .ref mt, .ref cn])), (pd, .inl (T 0, 80, .inl (zA P))), (os, .inl (T 0, 205, .inl (zA O)))] H := hP
  have hD : va_D A [(mm, .inr (7, [.ref nw, .ref pa, .int (iz (kp)), .ref zl, .ref hd, .ref pd, .int (iz (((n : Nat) : Int))), .int (iz (0)), .ref os, .int (iz (0)), .int (iz (dn)), .int (iz (pu)), .int (iz (lo2)), .int (iz (sp2)), .int (iz (lv2)), .int (iz (wa)), .ref mt, .ref cn])), (pd, .inl (T 0, 80, .inl (zA P))), (os, .inl (T 0, 205, .inl (zA O)))] := hD
  refine lv_iconst (v := iz (1)) hx hb dX7_isText_10 (by decide) ?_
  refine lv_istore_n (lv' := [(1, .int (iz (1))), (0, .ref mm)]) hx hb dX7_isText_11 rfl hl (by decide) rfl (fun ls hl => ?_)
  have hZ : (0 : Int) = ((0 : Nat) : Int) := rfl
  have hP : va_P D vwCl [(mm, .inr (7, [.ref nw, .ref pa, .int (iz (kp)), .ref zl, .ref hd, .ref pd, .int (iz (((n : Nat) : Int))), .int (iz (((0 : Nat) : Int))), .ref os, .int (iz (0)), .int (iz (dn)), .int (iz (pu)), .int (iz (lo2)), .int (iz (sp2)), .int (iz (lv2)), .int (iz (wa)), .ref mt, .ref cn])), (pd, .inl (T 0, 80, .inl (zA P))), (os, .inl (T 0, 205, .inl (zA O)))] H := by rw [← hZ]; exact hP
  have hD : va_D A [(mm, .inr (7, [.ref nw, .ref pa, .int (iz (kp)), .ref zl, .ref hd, .ref pd, .int (iz (((n : Nat) : Int))), .int (iz (((0 : Nat) : Int))), .ref os, .int (iz (0)), .int (iz (dn)), .int (iz (pu)), .int (iz (lo2)), .int (iz (sp2)), .int (iz (lv2)), .int (iz (wa)), .ref mt, .ref cn])), (pd, .inl (T 0, 80, .inl (zA P))), (os, .inl (T 0, 205, .inl (zA O)))] := by rw [← hZ]; exact hD
  have hZ : (0 : Int) = ((0 : Nat) : Int) := rfl
  have hP : va_P D vwCl [(mm, .inr (7, [.ref nw, .ref pa, .int (iz (kp)), .ref zl, .ref hd, .ref pd, .int (iz (((n : Nat) : Int))), .int (iz (((0 : Nat) : Int))), .ref os, .int (iz (((0 : Nat) : Int))), .int (iz (dn)), .int (iz (pu)), .int (iz (lo2)), .int (iz (sp2)), .int (iz (lv2)), .int (iz (wa)), .ref mt, .ref cn])), (pd, .inl (T 0, 80, .inl (zA P))), (os, .inl (T 0, 205, .inl (zA O)))] H := by rw [← hZ]; exact hP
  have hD : va_D A [(mm, .inr (7, [.ref nw, .ref pa, .int (iz (kp)), .ref zl, .ref hd, .ref pd, .int (iz (((n : Nat) : Int))), .int (iz (((0 : Nat) : Int))), .ref os, .int (iz (((0 : Nat) : Int))), .int (iz (dn)), .int (iz (pu)), .int (iz (lo2)), .int (iz (sp2)), .int (iz (lv2)), .int (iz (wa)), .ref mt, .ref cn])), (pd, .inl (T 0, 80, .inl (zA P))), (os, .inl (T 0, 205, .inl (zA O)))] := by rw [← hZ]; exact hD
  refine kz_loopW4 (pc := 12) (I := fun (k : Nat) (i : Nat) (mo : Int) (U : Nat → Int) (H : Heap) (locs : List Loc) (ls : Array Slot) => (k ≤ 40 ∧ i ≤ n ∧ 2 * k ≤ i + 1) ∧ (mo = 0 ∨ mo = 1) ∧ (mo = 1 → i = tq P n k ∧ 2 * k ≤ i ∧ (pd_fault P n = pf_go P n (80 - k) i) ∧ (0 < k → pd_s P n (po_end P n (tq P n (k - 1))) = 59)) ∧ (mo = 0 → (1 ≤ k ∧ i = po_end P n (tq P n (k - 1))) ∧ pd_fault P n = if n ≤ i then -6 else (i : Int)) ∧ (∀ j : Nat, j < k → po_ok P n (tq P n j) = 1 ∧ OD P n (tq P n j) U j) ∧ (∀ j : Nat, j + 1 < k → pd_s P n (po_end P n (tq P n j)) = 59) ∧ va_P D vwCl [(mm, .inr (7, [.ref nw, .ref pa, .int (iz (kp)), .ref zl, .ref hd, .ref pd, .int (iz (((n : Nat) : Int))), .int (iz (((i : Nat) : Int))), .ref os, .int (iz (((k : Nat) : Int))), .int (iz (dn)), .int (iz (pu)), .int (iz (lo2)), .int (iz (sp2)), .int (iz (lv2)), .int (iz (wa)), .ref mt, .ref cn])), (pd, .inl (T 0, 80, .inl (zA P))), (os, .inl (T 0, 205, .inl (zA U)))] H ∧ va_D A [(mm, .inr (7, [.ref nw, .ref pa, .int (iz (kp)), .ref zl, .ref hd, .ref pd, .int (iz (((n : Nat) : Int))), .int (iz (((i : Nat) : Int))), .ref os, .int (iz (((k : Nat) : Int))), .int (iz (dn)), .int (iz (pu)), .int (iz (lo2)), .int (iz (sp2)), .int (iz (lv2)), .int (iz (wa)), .ref mt, .ref cn])), (pd, .inl (T 0, 80, .inl (zA P))), (os, .inl (T 0, 205, .inl (zA U)))] ∧ va_S A s.heap H locs ∧ lv_has ls 2 [(0, .ref mm), (1, .int (iz (mo)))]) (μ := fun (k : Nat) (i : Nat) (mo : Int) (U : Nat → Int) => if mo = 1 then 1 + (80 - k) else 0) 0 0 1 O ⟨(by omega), (by omega), (fun _ => ⟨rfl, by omega, rfl, fun q => absurd q (Nat.lt_irrefl 0)⟩), (by omega), (fun j hj => absurd hj (Nat.not_lt_zero j)), (fun j hj => absurd hj (by omega)), hP, hD, hS, lv_sub hl [1, 0] rfl⟩ ?_
  rintro k i mo U H locs ls ⟨hk, hmo, h1, h0, hR, hS5, hP, hD, hS, hl⟩ ih12
  have hle := po_end_le (P := P) (n := n) (i := i) (by omega)
  have hge := po_end_ge (P := P) (n := n) (i := i)
  have h01 := po_ok01 P n i
  refine lv_iload_n hx hb dX7_isText_12 rfl (lv_at hl 1 rfl) ?_
  refine kz_if_eq (tgt := 45) hx hb dX7_isText_13 (by decide) (by omega) (fun c13 => ?_) (fun c13 => ?_)
  · have hm0 : mo = 0 := by omega
    obtain ⟨⟨hk1, ei⟩, hpf⟩ := h0 hm0
    refine lv_aload_n hx hb dX7_isText_45 rfl (lv_at hl 0 rfl) ?_
    refine va_get (D := D) (ci := 7) (C := RX7) (T := TX7) (N := 18) hx hb hts w1 hown hK.1 hP 0 rfl rfl 7 (by decide) w0 (fun _ h9 => h9) rfl dX7_isText_46 ?_
    refine lv_aload_n hx hb dX7_isText_49 rfl (lv_at hl 0 rfl) ?_
    refine va_get (D := D) (ci := 7) (C := RX7) (T := TX7) (N := 18) hx hb hts w1 hown hK.1 hP 0 rfl rfl 6 (by decide) w3 (fun _ h9 => h9) rfl dX7_isText_50 ?_
    refine kz_icmp_ne (tgt := 60) hx hb dX7_isText_53 (by decide) (by omega) (by omega) (fun c53 => ?_) (fun c53 => ?_)
    · refine lv_iconst (v := iz (0)) hx hb dX7_isText_60 (by decide) ?_
      exact W.zret hx hb hr (kz_nar (by omega)) (fun t ht hW => ⟨⟨_, (((i : Nat) : Int), ((k : Nat) : Int), U), rfl, ⟨congrArg iz (by rw [hpf, if_neg (show ¬ n ≤ i by omega), if_neg (by omega)]), (fun _ => by rw [hpf, if_neg (show ¬ n ≤ i by omega)]), (fun q => by exfalso; rw [hpf, if_neg (show ¬ n ≤ i by omega)] at q; omega)⟩, by show va_P _ _ _ t.heap; rw [ht]; exact hP⟩, hS.F ht⟩) hS.2.2 dX7_isText_61
    · refine lv_iconst (v := iz (1)) hx hb dX7_isText_56 (by decide) ?_
      refine lv_goto (tgt := 61) hx hb dX7_isText_57 (by decide) ?_
      exact W.zret hx hb hr (kz_nar (by omega)) (fun t ht hW => ⟨⟨_, (((i : Nat) : Int), ((k : Nat) : Int), U), rfl, ⟨congrArg iz (by rw [hpf, if_pos (show n ≤ i by omega)]; rfl), (fun q => by exfalso; apply q; rw [hpf, if_pos (show n ≤ i by omega)]), (fun _ => ⟨k, rfl, ⟨hk1, hk.1⟩, hR, hS5, by rw [← ei]; omega⟩)⟩, by show va_P _ _ _ t.heap; rw [ht]; exact hP⟩, hS.F ht⟩) hS.2.2 dX7_isText_61
  · have hm1 : mo = 1 := by omega
    obtain ⟨ei, h2k, hpf, h59⟩ := h1 hm1
    have hst : pf_go P n (80 - k) i = if po_ok P n i = 0 then (po_end P n i : Int) else if n ≤ po_end P n i then -6 else if pd_s P n (po_end P n i) = 59 then pf_go P n (80 - (k + 1)) (po_end P n i + 1) else (po_end P n i : Int) := by rw [show 80 - k = 80 - (k + 1) + 1 by omega]; rfl
    have hpl := pd_lt (P := P) (n := n) (i := po_end P n i) (c := 59)
    have hzz : pd_s P n n = 0 := (pd_s_rng hVP n).2.2.2 (Nat.le_refl n)
    refine lv_aload_n hx hb dX7_isText_16 rfl (lv_at hl 0 rfl) ?_
    refine kc_wi (va_runV (As := []) (rest := []) ⟨hx, hb, hml, hown, hts⟩ (c_X7_isOrder l D T H.size mm nw pa kp zl hd pd os dn pu lo2 sp2 lv2 wa mt cn P n hVP i (by omega) k (by omega) U) (cwV 0 hts gX7_isText_X7_isOrder rfl rfl rfl (by decide +kernel) ⟨Nat.le_of_ble_eq_true rfl, Nat.le_of_ble_eq_true rfl⟩) (kPc.v hK (va_recv hK.1 hP (ci := 7) (q0 := 0) rfl rfl) (kW.cut hP hD [0, 1, 2] rfl (by rfl))) rfl rfl hl.1 rfl (lv_room (Nat.le_of_ble_eq_true rfl)) dX7_isText_17 ⟨Nat.zero_le _, Nat.zero_le _⟩) hP hD hS hA [0, 1, 2] rfl (fun _ => rfl) (fun r1 u H locs hr1 hP hD hS => ?_)
    obtain ⟨u2, rfl⟩ : ∃ z, z = u := ⟨_, rfl⟩
    have hP : va_P D vwCl [(mm, .inr (7, [.ref nw, .ref pa, .int (iz (kp)), .ref zl, .ref hd, .ref pd, .int (iz (((n : Nat) : Int))), .int (iz (((po_end P n i : Nat) : Int))), .ref os, .int (iz (((k : Nat) : Int))), .int (iz (dn)), .int (iz (pu)), .int (iz (lo2)), .int (iz (sp2)), .int (iz (lv2)), .int (iz (wa)), .ref mt, .ref cn])), (pd, .inl (T 0, 80, .inl (zA P))), (os, .inl (T 0, 205, .inl (zA u2)))] H := hP
    have hD : va_D A [(mm, .inr (7, [.ref nw, .ref pa, .int (iz (kp)), .ref zl, .ref hd, .ref pd, .int (iz (((n : Nat) : Int))), .int (iz (((po_end P n i : Nat) : Int))), .ref os, .int (iz (((k : Nat) : Int))), .int (iz (dn)), .int (iz (pu)), .int (iz (lo2)), .int (iz (sp2)), .int (iz (lv2)), .int (iz (wa)), .ref mt, .ref cn])), (pd, .inl (T 0, 80, .inl (zA P))), (os, .inl (T 0, 205, .inl (zA u2)))] := hD
    obtain ⟨rfl, hr1⟩ := hr1
    try dsimp only at hr1
    refine kz_if_ne (tgt := 25) hx hb dX7_isText_20 (by decide) (by omega) (fun c20 => ?_) (fun c20 => ?_)
    · have hok : po_ok P n i = 1 := by omega
      have hge2 := hge (by omega)
      obtain ⟨⟨hU0, hUD⟩, hUj⟩ := hr1
      have hnR : ∀ j : Nat, j < k + 1 → po_ok P n (tq P n j) = 1 ∧ OD P n (tq P n j) u2 j := fun j hj => by
          by_cases w : j = k
          · rw [w, ← ei]; exact ⟨hok, hUD hok⟩
          · exact ⟨(hR j (by omega)).1, (hR j (by omega)).2.mono (fun q hq => hUj q (by omega))⟩
      have hnS : ∀ j : Nat, j + 1 < k + 1 → pd_s P n (po_end P n (tq P n j)) = 59 := fun j hj => by
          by_cases w : j + 1 = k
          · have := h59 (by omega); rw [show k - 1 = j by omega] at this; exact this
          · exact hS5 j (by omega)
      have hn1 : (if pd_s P n (po_end P n i) = 59 then (1 : Int) else 0) = 1 → (if pd_s P n (po_end P n i) = 59 then po_end P n i + 1 else po_end P n i) = tq P n (k + 1) ∧ 2 * (k + 1) ≤ (if pd_s P n (po_end P n i) = 59 then po_end P n i + 1 else po_end P n i) ∧ (pd_fault P n = pf_go P n (80 - (k + 1)) (if pd_s P n (po_end P n i) = 59 then po_end P n i + 1 else po_end P n i)) ∧ (0 < k + 1 → pd_s P n (po_end P n (tq P n (k + 1 - 1))) = 59) := fun q => by
          have w : pd_s P n (po_end P n i) = 59 := by split at q <;> omega
          have wj := hpl w (by omega)
          rw [if_pos w]
          refine ⟨by rw [ei]; rfl, by omega, by rw [hpf, hst, if_neg (by omega), if_neg (by omega), if_pos w], fun _ => by rw [Nat.add_sub_cancel, ← ei]; exact w⟩
      have hn0 : (if pd_s P n (po_end P n i) = 59 then (1 : Int) else 0) = 0 → (1 ≤ k + 1 ∧ (if pd_s P n (po_end P n i) = 59 then po_end P n i + 1 else po_end P n i) = po_end P n (tq P n (k + 1 - 1))) ∧ pd_fault P n = if n ≤ (if pd_s P n (po_end P n i) = 59 then po_end P n i + 1 else po_end P n i) then -6 else (((if pd_s P n (po_end P n i) = 59 then po_end P n i + 1 else po_end P n i) : Nat) : Int) := fun q => by
          have w : pd_s P n (po_end P n i) ≠ 59 := by split at q <;> omega
          rw [if_neg w]
          refine ⟨⟨by omega, by rw [Nat.add_sub_cancel, ← ei]⟩, ?_⟩
          rw [hpf, hst, if_neg (by omega)]
          (repeat' split) <;> first | rfl | omega | contradiction
      refine lv_aload_n hx hb dX7_isText_25 rfl (lv_at hl 0 rfl) ?_
      refine lv_dup hx hb dX7_isText_26 rfl ?_
      refine va_get (D := D) (ci := 7) (C := RX7) (T := TX7) (N := 18) hx hb hts w1 hown hK.1 hP 0 rfl rfl 9 (by decide) w2 (fun _ h9 => h9) rfl dX7_isText_27 ?_
      refine lv_iconst (v := iz (1)) hx hb dX7_isText_30 (by decide) ?_
      refine kz_add hx hb dX7_isText_31 ?_
      refine kz_top (y := ((k + 1 : Nat) : Int)) (by omega) ?_
      refine va_put (D := D) (ci := 7) (v := .int (iz (((k + 1 : Nat) : Int)))) (ty := .int) (C := RX7) (T := TX7) (N := 18) hx hb hts w1 tyX7 tyX7_ok nmX7 hown hK.1 hP hD hS 0 rfl rfl 9 (by decide) w2 (fun _ h9 => h9) rfl (by decide +kernel) rfl rfl (Nat.le_of_ble_eq_true rfl) dX7_isText_32 (fun H locs hP hD hS => ?_)
      have hP : va_P D vwCl [(mm, .inr (7, [.ref nw, .ref pa, .int (iz (kp)), .ref zl, .ref hd, .ref pd, .int (iz (((n : Nat) : Int))), .int (iz (((po_end P n i : Nat) : Int))), .ref os, .int (iz (((k + 1 : Nat) : Int))), .int (iz (dn)), .int (iz (pu)), .int (iz (lo2)), .int (iz (sp2)), .int (iz (lv2)), .int (iz (wa)), .ref mt, .ref cn])), (pd, .inl (T 0, 80, .inl (zA P))), (os, .inl (T 0, 205, .inl (zA u2)))] H := hP
      have hD : va_D A [(mm, .inr (7, [.ref nw, .ref pa, .int (iz (kp)), .ref zl, .ref hd, .ref pd, .int (iz (((n : Nat) : Int))), .int (iz (((po_end P n i : Nat) : Int))), .ref os, .int (iz (((k + 1 : Nat) : Int))), .int (iz (dn)), .int (iz (pu)), .int (iz (lo2)), .int (iz (sp2)), .int (iz (lv2)), .int (iz (wa)), .ref mt, .ref cn])), (pd, .inl (T 0, 80, .inl (zA P))), (os, .inl (T 0, 205, .inl (zA u2)))] := hD
      refine lv_aload_n hx hb dX7_isText_35 rfl (lv_at hl 0 rfl) ?_
      refine lv_bipush (v := iz (59)) hx hb dX7_isText_36 (by decide) ?_
      refine kc_wi (va_runV (As := [.int (iz (59))]) (rest := []) ⟨hx, hb, hml, hown, hts⟩ (c_X7_isSign l D T H.size mm nw pa kp zl hd pd os ((k + 1 : Nat) : Int) dn pu lo2 sp2 lv2 wa mt cn P n hVP (po_end P n i) (by omega) 59 (by omega)) (cwV 1 hts gX7_isText_X7_isSign rfl rfl rfl (by decide +kernel) ⟨Nat.le_of_ble_eq_true rfl, Nat.le_of_ble_eq_true rfl⟩) (kPc.v hK (va_recv hK.1 hP (ci := 7) (q0 := 0) rfl rfl) (kW.cut hP hD [0, 1] rfl (by rfl))) rfl rfl hl.1 rfl (lv_room (Nat.le_of_ble_eq_true rfl)) dX7_isText_38 ⟨Nat.zero_le _, Nat.zero_le _⟩) hP hD hS hA [0, 1] rfl (fun _ => rfl) (fun r3 u H locs hr3 hP hD hS => ?_)
      have hP : va_P D vwCl [(mm, .inr (7, [.ref nw, .ref pa, .int (iz (kp)), .ref zl, .ref hd, .ref pd, .int (iz (((n : Nat) : Int))), .int (iz (((if pd_s P n (po_end P n i) = 59 then (po_end P n i) + 1 else (po_end P n i) : Nat) : Int))), .ref os, .int (iz (((k + 1 : Nat) : Int))), .int (iz (dn)), .int (iz (pu)), .int (iz (lo2)), .int (iz (sp2)), .int (iz (lv2)), .int (iz (wa)), .ref mt, .ref cn])), (pd, .inl (T 0, 80, .inl (zA P))), (os, .inl (T 0, 205, .inl (zA u2)))] H := hP
      have hD : va_D A [(mm, .inr (7, [.ref nw, .ref pa, .int (iz (kp)), .ref zl, .ref hd, .ref pd, .int (iz (((n : Nat) : Int))), .int (iz (((if pd_s P n (po_end P n i) = 59 then (po_end P n i) + 1 else (po_end P n i) : Nat) : Int))), .ref os, .int (iz (((k + 1 : Nat) : Int))), .int (iz (dn)), .int (iz (pu)), .int (iz (lo2)), .int (iz (sp2)), .int (iz (lv2)), .int (iz (wa)), .ref mt, .ref cn])), (pd, .inl (T 0, 80, .inl (zA P))), (os, .inl (T 0, 205, .inl (zA u2)))] := hD
      subst hr3
      refine lv_istore_n (lv' := [(1, .int (iz (if pd_s P n (po_end P n i) = 59 then 1 else 0))), (0, .ref mm)]) hx hb dX7_isText_41 rfl hl (by decide) rfl (fun ls hl => ?_)
      refine lv_goto (tgt := 12) hx hb dX7_isText_42 (by decide) ?_
      have hl : lv_has ls 2 [(1, .int (iz ((if pd_s P n (po_end P n i) = 59 then 1 else 0)))), (0, .ref mm)] := by rw [← (show (if pd_s P n (po_end P n i) = 59 then 1 else 0 : Int) = (if pd_s P n (po_end P n i) = 59 then 1 else 0) from (by first | rfl | omega))]; exact hl
      have hZ : (((if pd_s P n (po_end P n i) = 59 then (po_end P n i) + 1 else (po_end P n i) : Nat) : Int) : Int) = (((if pd_s P n (po_end P n i) = 59 then po_end P n i + 1 else po_end P n i) : Nat) : Int) := (by first | rfl | omega)
      have hP : va_P D vwCl [(mm, .inr (7, [.ref nw, .ref pa, .int (iz (kp)), .ref zl, .ref hd, .ref pd, .int (iz (((n : Nat) : Int))), .int (iz ((((if pd_s P n (po_end P n i) = 59 then po_end P n i + 1 else po_end P n i) : Nat) : Int))), .ref os, .int (iz (((k + 1 : Nat) : Int))), .int (iz (dn)), .int (iz (pu)), .int (iz (lo2)), .int (iz (sp2)), .int (iz (lv2)), .int (iz (wa)), .ref mt, .ref cn])), (pd, .inl (T 0, 80, .inl (zA P))), (os, .inl (T 0, 205, .inl (zA u2)))] H := by rw [← hZ]; exact hP
      have hD : va_D A [(mm, .inr (7, [.ref nw, .ref pa, .int (iz (kp)), .ref zl, .ref hd, .ref pd, .int (iz (((n : Nat) : Int))), .int (iz ((((if pd_s P n (po_end P n i) = 59 then po_end P n i + 1 else po_end P n i) : Nat) : Int))), .ref os, .int (iz (((k + 1 : Nat) : Int))), .int (iz (dn)), .int (iz (pu)), .int (iz (lo2)), .int (iz (sp2)), .int (iz (lv2)), .int (iz (wa)), .ref mt, .ref cn])), (pd, .inl (T 0, 80, .inl (zA P))), (os, .inl (T 0, 205, .inl (zA u2)))] := by rw [← hZ]; exact hD
      exact ih12 (k + 1) (if pd_s P n (po_end P n i) = 59 then po_end P n i + 1 else po_end P n i) (if pd_s P n (po_end P n i) = 59 then 1 else 0) u2 _ _ _ ⟨(by split <;> omega), (by split <;> omega), hn1, hn0, hnR, hnS, hP, hD, hS, lv_sub hl [1, 0] rfl⟩ (by rw [if_pos hm1]; (repeat' split) <;> omega)
    · have hok : po_ok P n i = 0 := by omega
      refine lv_iconst (v := iz (0)) hx hb dX7_isText_23 (by decide) ?_
      exact W.zret hx hb hr (kz_nar (by omega)) (fun t ht hW => ⟨⟨_, (((po_end P n i : Nat) : Int), ((k : Nat) : Int), u2), rfl, ⟨congrArg iz (by rw [hpf, hst, if_pos hok, if_neg (by omega)]), (fun _ => (by rw [hpf, hst, if_pos hok])), (fun q => by exfalso; rw [hpf, hst, if_pos hok] at q; omega)⟩, by show va_P _ _ _ t.heap; rw [ht]; exact hP⟩, hS.F ht⟩) hS.2.2 dX7_isText_24
set_option maxHeartbeats 4000000 in
set_option maxRecDepth 100000 in
theorem c_X7_fault (l : Launch) (D : va_G) (T : Nat → ClassId) (sz : Nat) (mm : Nat) (nw : Nat) (pa : Nat) (kp : Int) (zl : Nat) (hd : Nat) (pd : Nat) (at0 : Int) (os : Nat) (od : Int) (dn : Int) (pu : Int) (lo2 : Int) (sp2 : Int) (lv2 : Int) (wa : Int) (mt : Nat) (cn : Nat) (P : Nat → Int) (n : Nat) (hVP : VP P n) (O : Nat → Int) : Met l yX7_fault wsX7_fault ({ frames := 6, cells := 0, slots := 0, locals := 131 }) (kPc D T [.ref mm] (kW D sz [(mm, .inr (7, [.ref nw, .ref pa, .int (iz (kp)), .ref zl, .ref hd, .ref pd, .int (iz (((n : Nat) : Int))), .int (iz (at0)), .ref os, .int (iz (od)), .int (iz (dn)), .int (iz (pu)), .int (iz (lo2)), .int (iz (sp2)), .int (iz (lv2)), .int (iz (wa)), .ref mt, .ref cn])), (pd, .inl (T 0, 80, .inl (zA P))), (os, .inl (T 0, 205, .inl (zA O)))])) (va_Qi (fun (r : Int32) (u : Int × Int × (Nat → Int)) => r = iz (pd_fault P n)) (fun (u : Int × Int × (Nat → Int)) (t : State) => va_P D vwCl [(mm, .inr (7, [.ref nw, .ref pa, .int (iz (kp)), .ref zl, .ref hd, .ref pd, .int (iz (((n : Nat) : Int))), .int (iz (u.1)), .ref os, .int (iz (u.2.1)), .int (iz (dn)), .int (iz (pu)), .int (iz (lo2)), .int (iz (sp2)), .int (iz (lv2)), .int (iz (wa)), .ref mt, .ref cn])), (pd, .inl (T 0, 80, .inl (zA P))), (os, .inl (T 0, 205, .inl (zA u.2.2)))] t.heap) (va_A [(mm, .inr (7, [.ref nw, .ref pa, .int (iz (kp)), .ref zl, .ref hd, .ref pd, .int (iz (((n : Nat) : Int))), .int (iz (at0)), .ref os, .int (iz (od)), .int (iz (dn)), .int (iz (pu)), .int (iz (lo2)), .int (iz (sp2)), .int (iz (lv2)), .int (iz (wa)), .ref mt, .ref cn])), (pd, .inl (T 0, 80, .inl (zA P))), (os, .inl (T 0, 205, .inl (zA O)))] sz)) 0 0 (va_A [(mm, .inr (7, [.ref nw, .ref pa, .int (iz (kp)), .ref zl, .ref hd, .ref pd, .int (iz (((n : Nat) : Int))), .int (iz (at0)), .ref os, .int (iz (od)), .int (iz (dn)), .int (iz (pu)), .int (iz (lo2)), .int (iz (sp2)), .int (iz (lv2)), .int (iz (wa)), .ref mt, .ref cn])), (pd, .inl (T 0, 80, .inl (zA P))), (os, .inl (T 0, 205, .inl (zA O)))] sz) := by
  refine Met.ofW (cc := cX7_fault) (maxL := 1) (ret := (some .int)) (by decide) rfl ?_
  intro p e s m args below meth c s₁ B hml hv
  obtain ⟨rfl, hK, hsz, hP, hD0⟩ := hv
  have hx := B.exec
  have hb := B.bytes
  have hr := B.returns
  have hts := atoms_spec (ws := wsX7_fault) B.pre
  have hown : s.vm.findClass RX7 = some m.cls := findClass_of_methodNamed B.named
  have hlocks := B.notSynchronized
  have w0 := hts (.fieldLink RX7 165 "LakePlantModel" "at" "I") (List.mem_of_getElem? (i := 1) rfl)
  have w1 : ∀ w ∈ wsX70, w ∈ wsX7_fault := by decide +kernel
  subst hsz
  have hD := hD0.self (sz := s.heap.size)
  generalize hAe : va_A [(mm, .inr (7, [.ref nw, .ref pa, .int (iz (kp)), .ref zl, .ref hd, .ref pd, .int (iz (((n : Nat) : Int))), .int (iz (at0)), .ref os, .int (iz (od)), .int (iz (dn)), .int (iz (pu)), .int (iz (lo2)), .int (iz (sp2)), .int (iz (lv2)), .int (iz (wa)), .ref mt, .ref cn])), (pd, .inl (T 0, 80, .inl (zA P))), (os, .inl (T 0, 205, .inl (zA O)))] s.heap.size = A at hD ⊢
  have hA : ∀ q : Nat, s.heap.size ≤ q → A q := fun q h => by rw [← hAe]; exact Or.inr h
  have hS : va_S A s.heap s.heap [] := va_S.rf
  have hP : va_P D vwCl [(mm, .inr (7, [.ref nw, .ref pa, .int (iz (kp)), .ref zl, .ref hd, .ref pd, .int (iz (((n : Nat) : Int))), .int (iz (at0)), .ref os, .int (iz (od)), .int (iz (dn)), .int (iz (pu)), .int (iz (lo2)), .int (iz (sp2)), .int (iz (lv2)), .int (iz (wa)), .ref mt, .ref cn])), (pd, .inl (T 0, 80, .inl (zA P))), (os, .inl (T 0, 205, .inl (zA O)))] s.heap := hP
  have hl := lv_entry ([.ref mm]) (n := 1) (Nat.le_of_ble_eq_true rfl)
  rw [lg_entry_eq]
  generalize (lg_sl ([.ref mm]) ++ List.replicate (1 - (lg_sl ([.ref mm])).length) Slot.unset).toArray = ls at hl ⊢
  have hl : lv_has ls 1 [(0, .ref mm)] := hl
  refine lv_aload_n hx hb dX7_fault_0 rfl (lv_at hl 0 rfl) ?_
  refine kc_wi (va_runV (As := []) (rest := []) ⟨hx, hb, hml, hown, hts⟩ (c_X7_isText l D T s.heap.size mm nw pa kp zl hd pd at0 os od dn pu lo2 sp2 lv2 wa mt cn P n hVP O) (cwV 0 hts gX7_fault_X7_isText rfl rfl rfl (by decide +kernel) ⟨Nat.le_of_ble_eq_true rfl, Nat.le_of_ble_eq_true rfl⟩) (kPc.v hK (va_recv hK.1 hP (ci := 7) (q0 := 0) rfl rfl) (kW.cut hP hD [0, 1, 2] rfl (by rfl))) rfl rfl hl.1 rfl (lv_room (Nat.le_of_ble_eq_true rfl)) dX7_fault_1 ⟨Nat.zero_le _, Nat.zero_le _⟩) hP hD hS hA [0, 1, 2] rfl (fun _ => rfl) (fun r1 u H locs hr1 hP hD hS => ?_)
  obtain ⟨u2, u3, u4⟩ := u
  have hP : va_P D vwCl [(mm, .inr (7, [.ref nw, .ref pa, .int (iz (kp)), .ref zl, .ref hd, .ref pd, .int (iz (((n : Nat) : Int))), .int (iz (u2)), .ref os, .int (iz (u3)), .int (iz (dn)), .int (iz (pu)), .int (iz (lo2)), .int (iz (sp2)), .int (iz (lv2)), .int (iz (wa)), .ref mt, .ref cn])), (pd, .inl (T 0, 80, .inl (zA P))), (os, .inl (T 0, 205, .inl (zA u4)))] H := hP
  have hD : va_D A [(mm, .inr (7, [.ref nw, .ref pa, .int (iz (kp)), .ref zl, .ref hd, .ref pd, .int (iz (((n : Nat) : Int))), .int (iz (u2)), .ref os, .int (iz (u3)), .int (iz (dn)), .int (iz (pu)), .int (iz (lo2)), .int (iz (sp2)), .int (iz (lv2)), .int (iz (wa)), .ref mt, .ref cn])), (pd, .inl (T 0, 80, .inl (zA P))), (os, .inl (T 0, 205, .inl (zA u4)))] := hD
  obtain ⟨rfl, hr1⟩ := hr1
  try dsimp only at hr1
  have htx := hr1
  refine kz_if_eq (tgt := 12) hx hb dX7_fault_4 (by decide) (by omega) (fun c4 => ?_) (fun c4 => ?_)
  · refine lv_aload_n hx hb dX7_fault_12 rfl (lv_at hl 0 rfl) ?_
    refine va_get (D := D) (ci := 7) (C := RX7) (T := TX7) (N := 18) hx hb hts w1 hown hK.1 hP 0 rfl rfl 7 (by decide) w0 (fun _ h9 => h9) rfl dX7_fault_13 ?_
    exact W.iret hx hb hr (fun t ht hW => ⟨⟨_, (u2, u3, u4), rfl, (congrArg iz (htx.1 (by intro q; rw [if_pos q] at c4; omega))), by show va_P _ _ _ t.heap; rw [ht]; exact hP⟩, hS.F ht⟩) hS.2.2 dX7_fault_16
  · refine lv_bipush (v := iz (-6)) hx hb dX7_fault_7 (by decide) ?_
    refine lv_goto (tgt := 16) hx hb dX7_fault_9 (by decide) ?_
    exact W.iret hx hb hr (fun t ht hW => ⟨⟨_, (u2, u3, u4), rfl, (congrArg iz (by split at c4 <;> omega)), by show va_P _ _ _ t.heap; rw [ht]; exact hP⟩, hS.F ht⟩) hS.2.2 dX7_fault_16
