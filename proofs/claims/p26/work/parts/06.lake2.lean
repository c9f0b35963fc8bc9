set_option maxHeartbeats 4000000 in
set_option maxRecDepth 100000 in
theorem c_X2_levelBehind (l : Launch) (D : va_G) (T : Nat → ClassId) (h0 : Nat) (h1 : Nat) (Z : Nat → Int) (ve : Int) (k : Nat) (hk : k < 24) (lev : Int) (uu : Int) (hV : VL Z) (hl0 : 0 ≤ lev ∧ lev ≤ 10000) (hu : -30 ≤ uu ∧ uu ≤ 30) : Met l yX2_levelBehind wsX2_levelBehind ({ frames := 2, cells := 0, slots := 0, locals := 44 }) (kPc D T [.ref h0, .int (iz (((k : Nat) : Int))), .int (iz (lev)), .int (iz (uu))] (va_P D vwCl [(h0, .inr (2, [.ref h1, .int (iz (ve))])), (h1, .inl (T 0, 115, .inl (zA Z)))])) (vp_Si (fun r : Int32 => r = iz (lk_behind Z k lev uu))) 0 0 (fun _ => False) := by
  refine Met.ofW (cc := cX2_levelBehind) (maxL := 6) (ret := (some .int)) (by decide) rfl ?_
  intro p e s m args below meth c s₁ B hml hv
  obtain ⟨rfl, hK, hP⟩ := hv
  have hx := B.exec
  have hb := B.bytes
  have hr := B.returns
  have hts := atoms_spec (ws := wsX2_levelBehind) B.pre
  have hown : s.vm.findClass RX2 = some m.cls := findClass_of_methodNamed B.named
  have hlocks := B.notSynchronized
  have hP : va_P D vwCl [(h0, .inr (2, [.ref h1, .int (iz (ve))])), (h1, .inl (T 0, 115, .inl (zA Z)))] s.heap := hP
  have hl := lv_entry ([.ref h0, .int (iz (((k : Nat) : Int))), .int (iz (lev)), .int (iz (uu))]) (n := 6) (Nat.le_of_ble_eq_true rfl)
  rw [lg_entry_eq]
  generalize (lg_sl ([.ref h0, .int (iz (((k : Nat) : Int))), .int (iz (lev)), .int (iz (uu))]) ++ List.replicate (6 - (lg_sl ([.ref h0, .int (iz (((k : Nat) : Int))), .int (iz (lev)), .int (iz (uu))])).length) Slot.unset).toArray = ls at hl ⊢
  have hl : lv_has ls 6 [(0, .ref h0), (1, .int (iz (((k : Nat) : Int)))), (2, .int (iz (lev))), (3, .int (iz (uu)))] := hl
  have hs := hV.1
  unfold VS at hs
  have hp0 : 0 ≤ lk_pump uu ∧ lk_pump uu ≤ 30 := by unfold lk_pump; omega
  have hfl := lk_fill_rng hV hk (lev := lev) hp0
  have hw0 : 0 ≤ lk_want Z uu ∧ lk_want Z uu ≤ 30 := by unfold lk_want; omega
  have hd0 := lk_down_rng Z (lk_fill Z k lev (lk_pump uu)) (lk_want Z uu) hw0.1
  refine lv_aload_n hx hb dX2_levelBehind_0 rfl (lv_at hl 0 rfl) ?_
  refine lv_iload_n hx hb dX2_levelBehind_1 rfl (lv_at hl 1 rfl) ?_
  refine lv_iload_n hx hb dX2_levelBehind_2 rfl (lv_at hl 2 rfl) ?_
  refine lv_iload_n hx hb dX2_levelBehind_3 rfl (lv_at hl 3 rfl) ?_
  refine kc_i (va_runS (As := [.int (iz (uu))]) (rest := [.int (iz (lev)), .int (iz (((k : Nat) : Int))), .ref h0]) ⟨hx, hb, hml, hown, hts⟩ (c_X2_pumpedBy l D T uu (by omega)) (va_cwS 1 hts gX2_levelBehind_X2_pumpedBy rfl rfl rfl (by decide +kernel) ⟨Nat.le_of_ble_eq_true rfl, Nat.le_of_ble_eq_true rfl⟩) (kPc.s hK (kcut hP [] rfl)) rfl rfl hl.1 rfl (lv_room (Nat.le_of_ble_eq_true rfl)) dX2_levelBehind_4 ⟨Nat.zero_le _, Nat.zero_le _⟩) (fun r1 hr1 => ?_)
  subst hr1
  refine kc_i (va_runV (As := [.int (iz (((k : Nat) : Int))), .int (iz (lev)), .int (iz (lk_pump uu))]) (rest := []) ⟨hx, hb, hml, hown, hts⟩ (c_X2_filledLevel l D T h0 h1 Z ve k (by omega) lev (lk_pump uu) hV (by omega)) (cwV 3 hts gX2_levelBehind_X2_filledLevel rfl rfl rfl (by decide +kernel) ⟨Nat.le_of_ble_eq_true rfl, Nat.le_of_ble_eq_true rfl⟩) (kPc.v hK (va_recv hK.1 hP (ci := 2) (q0 := 0) rfl rfl) (kcut hP [0, 1] rfl)) rfl rfl hl.1 rfl (lv_room (Nat.le_of_ble_eq_true rfl)) dX2_levelBehind_7 ⟨Nat.zero_le _, Nat.zero_le _⟩) (fun r2 hr2 => ?_)
  subst hr2
  refine lv_istore (lv' := [(4, .int (iz (lk_fill Z k lev (lk_pump uu)))), (0, .ref h0), (1, .int (iz (((k : Nat) : Int)))), (2, .int (iz (lev))), (3, .int (iz (uu)))]) hx hb dX2_levelBehind_10 hl (by decide) rfl (fun ls hl => ?_)
  refine lv_iload hx hb dX2_levelBehind_12 (lv_at hl 0 rfl) ?_
  refine lv_aload_n hx hb dX2_levelBehind_14 rfl (lv_at hl 1 rfl) ?_
  refine lv_iload hx hb dX2_levelBehind_15 (lv_at hl 0 rfl) ?_
  refine lv_aload_n hx hb dX2_levelBehind_17 rfl (lv_at hl 1 rfl) ?_
  refine lv_iload_n hx hb dX2_levelBehind_18 rfl (lv_at hl 4 rfl) ?_
  refine kc_i (va_runV (As := [.int (iz (uu))]) (rest := [.int (iz (lk_fill Z k lev (lk_pump uu))), .ref h0, .int (iz (lk_fill Z k lev (lk_pump uu)))]) ⟨hx, hb, hml, hown, hts⟩ (c_X2_wantedBy l D T h0 h1 Z ve uu hV (by omega)) (cwV 1 hts gX2_levelBehind_X2_wantedBy rfl rfl rfl (by decide +kernel) ⟨Nat.le_of_ble_eq_true rfl, Nat.le_of_ble_eq_true rfl⟩) (kPc.v hK (va_recv hK.1 hP (ci := 2) (q0 := 0) rfl rfl) (kcut hP [0, 1] rfl)) rfl rfl hl.1 rfl (lv_room (Nat.le_of_ble_eq_true rfl)) dX2_levelBehind_19 ⟨Nat.zero_le _, Nat.zero_le _⟩) (fun r3 hr3 => ?_)
  subst hr3
  refine kc_i (va_runV (As := [.int (iz (lk_fill Z k lev (lk_pump uu))), .int (iz (lk_want Z uu))]) (rest := [.int (iz (lk_fill Z k lev (lk_pump uu)))]) ⟨hx, hb, hml, hown, hts⟩ (c_X2_letDownOf l D T h0 h1 Z ve (lk_fill Z k lev (lk_pump uu)) (lk_want Z uu) hV (by omega) (by omega)) (cwV 2 hts gX2_levelBehind_X2_letDownOf rfl rfl rfl (by decide +kernel) ⟨Nat.le_of_ble_eq_true rfl, Nat.le_of_ble_eq_true rfl⟩) (kPc.v hK (va_recv hK.1 hP (ci := 2) (q0 := 0) rfl rfl) (kcut hP [0, 1] rfl)) rfl rfl hl.1 rfl (lv_room (Nat.le_of_ble_eq_true rfl)) dX2_levelBehind_22 ⟨Nat.zero_le _, Nat.zero_le _⟩) (fun r4 hr4 => ?_)
  subst hr4
  refine kz_sub hx hb dX2_levelBehind_25 ?_
  refine lv_istore (lv' := [(5, .int (iz ((lk_fill Z k lev (lk_pump uu)) - (lk_down Z (lk_fill Z k lev (lk_pump uu)) (lk_want Z uu))))), (4, .int (iz (lk_fill Z k lev (lk_pump uu)))), (0, .ref h0), (1, .int (iz (((k : Nat) : Int)))), (2, .int (iz (lev))), (3, .int (iz (uu)))]) hx hb dX2_levelBehind_26 hl (by decide) rfl (fun ls hl => ?_)
  refine lv_iload hx hb dX2_levelBehind_28 (lv_at hl 0 rfl) ?_
  refine lv_aload_n hx hb dX2_levelBehind_30 rfl (lv_at hl 2 rfl) ?_
  refine lv_iload hx hb dX2_levelBehind_31 (lv_at hl 0 rfl) ?_
  refine kc_i (va_runV (As := [.int (iz ((lk_fill Z k lev (lk_pump uu)) - (lk_down Z (lk_fill Z k lev (lk_pump uu)) (lk_want Z uu))))]) (rest := [.int (iz ((lk_fill Z k lev (lk_pump uu)) - (lk_down Z (lk_fill Z k lev (lk_pump uu)) (lk_want Z uu))))]) ⟨hx, hb, hml, hown, hts⟩ (c_X2_spilledOf l D T h0 h1 Z ve ((lk_fill Z k lev (lk_pump uu)) - (lk_down Z (lk_fill Z k lev (lk_pump uu)) (lk_want Z uu))) hV (by omega)) (cwV 1 hts gX2_levelBehind_X2_spilledOf rfl rfl rfl (by decide +kernel) ⟨Nat.le_of_ble_eq_true rfl, Nat.le_of_ble_eq_true rfl⟩) (kPc.v hK (va_recv hK.1 hP (ci := 2) (q0 := 0) rfl rfl) (kcut hP [0, 1] rfl)) rfl rfl hl.1 rfl (lv_room (Nat.le_of_ble_eq_true rfl)) dX2_levelBehind_33 ⟨Nat.zero_le _, Nat.zero_le _⟩) (fun r5 hr5 => ?_)
  subst hr5
  refine kz_sub hx hb dX2_levelBehind_36 ?_
  exact W.iret hx hb hr (fun t ht _ => ⟨_, rfl, (congrArg iz rfl), ht⟩) (fun _ h => absurd h List.not_mem_nil) dX2_levelBehind_37
set_option maxHeartbeats 4000000 in
set_option maxRecDepth 100000 in
theorem c_X2_earnedBy (l : Launch) (D : va_G) (T : Nat → ClassId) (h0 : Nat) (h1 : Nat) (Z : Nat → Int) (ve : Int) (k : Nat) (hk : k < 24) (dd : Int) (hV : VL Z) (hd : 0 ≤ dd ∧ dd ≤ 30) : Met l yX2_earnedBy wsX2_earnedBy ({ frames := 1, cells := 0, slots := 0, locals := 23 }) (kPc D T [.ref h0, .int (iz (((k : Nat) : Int))), .int (iz (dd))] (va_P D vwCl [(h0, .inr (2, [.ref h1, .int (iz (ve))])), (h1, .inl (T 0, 115, .inl (zA Z)))])) (vp_Si (fun r : Int32 => r = iz (lk_earn Z k dd))) 0 0 (fun _ => False) := by
  refine Met.ofW (cc := cX2_earnedBy) (maxL := 6) (ret := (some .int)) (by decide) rfl ?_
  intro p e s m args below meth c s₁ B hml hv
  obtain ⟨rfl, hK, hP⟩ := hv
  have hx := B.exec
  have hb := B.bytes
  have hr := B.returns
  have hts := atoms_spec (ws := wsX2_earnedBy) B.pre
  have hown : s.vm.findClass RX2 = some m.cls := findClass_of_methodNamed B.named
  have hlocks := B.notSynchronized
  have w0 := hts (.fieldLink RX2 11 "LakePlant$Lake" "cells" "[I") (List.mem_of_getElem? (i := 1) rfl)
  have w1 : ∀ w ∈ wsX20, w ∈ wsX2_earnedBy := by decide +kernel
  have hP : va_P D vwCl [(h0, .inr (2, [.ref h1, .int (iz (ve))])), (h1, .inl (T 0, 115, .inl (zA Z)))] s.heap := hP
  have hl := lv_entry ([.ref h0, .int (iz (((k : Nat) : Int))), .int (iz (dd))]) (n := 6) (Nat.le_of_ble_eq_true rfl)
  rw [lg_entry_eq]
  generalize (lg_sl ([.ref h0, .int (iz (((k : Nat) : Int))), .int (iz (dd))]) ++ List.replicate (6 - (lg_sl ([.ref h0, .int (iz (((k : Nat) : Int))), .int (iz (dd))])).length) Slot.unset).toArray = ls at hl ⊢
  have hl : lv_has ls 6 [(0, .ref h0), (1, .int (iz (((k : Nat) : Int)))), (2, .int (iz (dd)))] := hl
  have hs := hV.1
  unfold VS at hs
  have hpr := (hV.2.1 k hk).1
  have hq1 := zmul hd hpr
  have hq2 := zmul hq1 hs.2.2.2.1
  have hcr := fun n h => lk_cs_rng hV k dd n h
  refine lv_iload_n hx hb dX2_earnedBy_0 rfl (lv_at hl 2 rfl) ?_
  refine lv_aload_n hx hb dX2_earnedBy_1 rfl (lv_at hl 0 rfl) ?_
  refine lv_iload_n hx hb dX2_earnedBy_2 rfl (lv_at hl 1 rfl) ?_
  refine kc_i (va_runV (As := [.int (iz (((k : Nat) : Int)))]) (rest := [.int (iz (dd))]) ⟨hx, hb, hml, hown, hts⟩ (c_X2_priceOf l D T h0 h1 Z ve k (by omega)) (cwV 1 hts gX2_earnedBy_X2_priceOf rfl rfl rfl (by decide +kernel) ⟨Nat.le_of_ble_eq_true rfl, Nat.le_of_ble_eq_true rfl⟩) (kPc.v hK (va_recv hK.1 hP (ci := 2) (q0 := 0) rfl rfl) (kcut hP [0, 1] rfl)) rfl rfl hl.1 rfl (lv_room (Nat.le_of_ble_eq_true rfl)) dX2_earnedBy_3 ⟨Nat.zero_le _, Nat.zero_le _⟩) (fun r1 hr1 => ?_)
  subst hr1
  refine kz_mul hx hb dX2_earnedBy_6 ?_
  refine lv_aload_n hx hb dX2_earnedBy_7 rfl (lv_at hl 0 rfl) ?_
  refine va_get (D := D) (ci := 2) (C := RX2) (T := TX2) (N := 2) hx hb hts w1 hown hK.1 hP 0 rfl rfl 0 (by decide) w0 (fun _ h9 => h9) rfl dX2_earnedBy_8 ?_
  refine lv_iconst (v := iz (3)) hx hb dX2_earnedBy_11 (by decide) ?_
  refine kz_iald hx hb hK hP (1) rfl (3) (by omega) (by omega) (by omega) dX2_earnedBy_12 ?_
  refine kz_mul hx hb dX2_earnedBy_13 ?_
  refine lv_bipush (v := iz (100)) hx hb dX2_earnedBy_14 (by decide) ?_
  refine kz_div hx hb (by omega) (by omega) dX2_earnedBy_16 ?_
  refine lv_istore_n (lv' := [(3, .int (iz (((dd * (Z (10 + k))) * (Z 3)) / 100))), (0, .ref h0), (1, .int (iz (((k : Nat) : Int)))), (2, .int (iz (dd)))]) hx hb dX2_earnedBy_17 rfl hl (by decide) rfl (fun ls hl => ?_)
  refine lv_iconst (v := iz (0)) hx hb dX2_earnedBy_18 (by decide) ?_
  refine lv_istore (lv' := [(4, .int (iz (0))), (3, .int (iz (((dd * (Z (10 + k))) * (Z 3)) / 100))), (0, .ref h0), (1, .int (iz (((k : Nat) : Int)))), (2, .int (iz (dd)))]) hx hb dX2_earnedBy_19 hl (by decide) rfl (fun ls hl => ?_)
  have hl : lv_has ls 6 [(4, .int (iz (0))), (3, .int (iz (dd * Z (10 + k) * Z 3 / 100 + lk_cs Z k dd 0))), (0, .ref h0), (1, .int (iz (((k : Nat) : Int)))), (2, .int (iz (dd)))] := by rw [← (show (((dd * (Z (10 + k))) * (Z 3)) / 100 : Int) = dd * Z (10 + k) * Z 3 / 100 + lk_cs Z k dd 0 from (by simp only [lk_cs]; omega))]; exact hl
  have hl : lv_has ls 6 [(4, .int (iz (((0 : Nat) : Int)))), (3, .int (iz (dd * Z (10 + k) * Z 3 / 100 + lk_cs Z k dd 0))), (0, .ref h0), (1, .int (iz (((k : Nat) : Int)))), (2, .int (iz (dd)))] := by rw [← (show (0 : Int) = ((0 : Nat) : Int) from (by first | rfl | omega))]; exact hl
  refine kz_loopR1 (pc := 21) (I := fun (n : Nat) (ls : Array Slot) => ((n : Int) ≤ Z 114) ∧ lv_has ls 6 [(0, .ref h0), (1, .int (iz (((k : Nat) : Int)))), (2, .int (iz (dd))), (3, .int (iz (dd * Z (10 + k) * Z 3 / 100 + lk_cs Z k dd n))), (4, .int (iz (((n : Nat) : Int))))]) (μ := fun (n : Nat) => 8 - n) 0 ⟨(by omega), lv_sub hl [2, 3, 4, 1, 0] rfl⟩ ?_
  rintro n ls ⟨hn, hl⟩ ih21
  have hcn := hcr n hn
  refine lv_iload hx hb dX2_earnedBy_21 (lv_at hl 4 rfl) ?_
  refine lv_aload_n hx hb dX2_earnedBy_23 rfl (lv_at hl 0 rfl) ?_
  refine kc_i (va_runV (As := []) (rest := [.int (iz (((n : Nat) : Int)))]) ⟨hx, hb, hml, hown, hts⟩ (c_X2_contracts l D T h0 h1 Z ve) (cwV 0 hts gX2_earnedBy_X2_contracts rfl rfl rfl (by decide +kernel) ⟨Nat.le_of_ble_eq_true rfl, Nat.le_of_ble_eq_true rfl⟩) (kPc.v hK (va_recv hK.1 hP (ci := 2) (q0 := 0) rfl rfl) (kcut hP [0, 1] rfl)) rfl rfl hl.1 rfl (lv_room (Nat.le_of_ble_eq_true rfl)) dX2_earnedBy_24 ⟨Nat.zero_le _, Nat.zero_le _⟩) (fun r2 hr2 => ?_)
  subst hr2
  refine kz_icmp_ge (tgt := 91) hx hb dX2_earnedBy_27 (by decide) (by omega) (by omega) (fun c27 => ?_) (fun c27 => ?_)
  · have hnn : (Z 114).toNat = n := by omega
    refine lv_iload_n hx hb dX2_earnedBy_91 rfl (lv_at hl 2 rfl) ?_
    refine lv_aload_n hx hb dX2_earnedBy_92 rfl (lv_at hl 0 rfl) ?_
    refine va_get (D := D) (ci := 2) (C := RX2) (T := TX2) (N := 2) hx hb hts w1 hown hK.1 hP 0 rfl rfl 0 (by decide) w0 (fun _ h9 => h9) rfl dX2_earnedBy_93 ?_
    refine lv_iconst (v := iz (4)) hx hb dX2_earnedBy_96 (by decide) ?_
    refine kz_iald hx hb hK hP (1) rfl (4) (by omega) (by omega) (by omega) dX2_earnedBy_97 ?_
    refine kz_icmp_ge (tgt := 113) hx hb dX2_earnedBy_98 (by decide) (by omega) (by omega) (fun c98 => ?_) (fun c98 => ?_)
    · refine lv_iload_n hx hb dX2_earnedBy_113 rfl (lv_at hl 3 rfl) ?_
      exact W.iret hx hb hr (fun t ht _ => ⟨_, rfl, (congrArg iz (by unfold lk_earn; rw [hnn]; split <;> omega)), ht⟩) (fun _ h => absurd h List.not_mem_nil) dX2_earnedBy_114
    · refine lv_iload_n hx hb dX2_earnedBy_101 rfl (lv_at hl 3 rfl) ?_
      refine lv_aload_n hx hb dX2_earnedBy_102 rfl (lv_at hl 0 rfl) ?_
      refine va_get (D := D) (ci := 2) (C := RX2) (T := TX2) (N := 2) hx hb hts w1 hown hK.1 hP 0 rfl rfl 0 (by decide) w0 (fun _ h9 => h9) rfl dX2_earnedBy_103 ?_
      refine lv_bipush (v := iz (9)) hx hb dX2_earnedBy_106 (by decide) ?_
      refine kz_iald hx hb hK hP (1) rfl (9) (by omega) (by omega) (by omega) dX2_earnedBy_108 ?_
      refine kz_sub hx hb dX2_earnedBy_109 ?_
      refine lv_goto (tgt := 114) hx hb dX2_earnedBy_110 (by decide) ?_
      exact W.iret hx hb hr (fun t ht _ => ⟨_, rfl, (congrArg iz (by unfold lk_earn; rw [hnn]; split <;> omega)), ht⟩) (fun _ h => absurd h List.not_mem_nil) dX2_earnedBy_114
  · have hcc := hV.2.2 n (by omega)
    refine lv_aload_n hx hb dX2_earnedBy_30 rfl (lv_at hl 0 rfl) ?_
    refine lv_iload hx hb dX2_earnedBy_31 (lv_at hl 4 rfl) ?_
    refine lv_iconst (v := iz (0)) hx hb dX2_earnedBy_33 (by decide) ?_
    refine kc_i (va_runV (As := [.int (iz (((n : Nat) : Int))), .int (iz (0))]) (rest := []) ⟨hx, hb, hml, hown, hts⟩ (c_X2_contractPart l D T h0 h1 Z ve n (by omega) 0 (by omega)) (cwV 2 hts gX2_earnedBy_X2_contractPart rfl rfl rfl (by decide +kernel) ⟨Nat.le_of_ble_eq_true rfl, Nat.le_of_ble_eq_true rfl⟩) (kPc.v hK (va_recv hK.1 hP (ci := 2) (q0 := 0) rfl rfl) (kcut hP [0, 1] rfl)) rfl rfl hl.1 rfl (lv_room (Nat.le_of_ble_eq_true rfl)) dX2_earnedBy_34 ⟨Nat.zero_le _, Nat.zero_le _⟩) (fun r3 hr3 => ?_)
    subst hr3
    refine lv_iload_n hx hb dX2_earnedBy_37 rfl (lv_at hl 1 rfl) ?_
    refine kz_icmp_ne (tgt := 85) hx hb dX2_earnedBy_38 (by decide) (by omega) (by omega) (fun c38 => ?_) (fun c38 => ?_)
    · refine kz_iinc (b := ((n + 1 : Nat) : Int)) (lv' := [(4, .int (iz (((n + 1 : Nat) : Int)))), (0, .ref h0), (1, .int (iz (((k : Nat) : Int)))), (2, .int (iz (dd))), (3, .int (iz (dd * Z (10 + k) * Z 3 / 100 + lk_cs Z k dd n)))]) hx hb dX2_earnedBy_85 hl (k := 4) rfl (by omega) (by decide) rfl (fun ls hl => ?_)
      refine lv_goto (tgt := 21) hx hb dX2_earnedBy_88 (by decide) ?_
      have hl : lv_has ls 6 [(4, .int (iz (((n + 1 : Nat) : Int)))), (0, .ref h0), (1, .int (iz (((k : Nat) : Int)))), (2, .int (iz (dd))), (3, .int (iz (dd * Z (10 + k) * Z 3 / 100 + lk_cs Z k dd (n + 1))))] := by rw [← (show (dd * Z (10 + k) * Z 3 / 100 + lk_cs Z k dd n : Int) = dd * Z (10 + k) * Z 3 / 100 + lk_cs Z k dd (n + 1) from (by simp only [lk_cs]; split <;> (try split) <;> omega))]; exact hl
      exact ih21 (n + 1) _ ⟨(by omega), lv_sub hl [1, 2, 3, 4, 0] rfl⟩ (by omega)
    · refine lv_iload_n hx hb dX2_earnedBy_41 rfl (lv_at hl 2 rfl) ?_
      refine lv_aload_n hx hb dX2_earnedBy_42 rfl (lv_at hl 0 rfl) ?_
      refine lv_iload hx hb dX2_earnedBy_43 (lv_at hl 4 rfl) ?_
      refine lv_iconst (v := iz (1)) hx hb dX2_earnedBy_45 (by decide) ?_
      refine kc_i (va_runV (As := [.int (iz (((n : Nat) : Int))), .int (iz (1))]) (rest := [.int (iz (dd))]) ⟨hx, hb, hml, hown, hts⟩ (c_X2_contractPart l D T h0 h1 Z ve n (by omega) 1 (by omega)) (cwV 2 hts gX2_earnedBy_X2_contractPart rfl rfl rfl (by decide +kernel) ⟨Nat.le_of_ble_eq_true rfl, Nat.le_of_ble_eq_true rfl⟩) (kPc.v hK (va_recv hK.1 hP (ci := 2) (q0 := 0) rfl rfl) (kcut hP [0, 1] rfl)) rfl rfl hl.1 rfl (lv_room (Nat.le_of_ble_eq_true rfl)) dX2_earnedBy_46 ⟨Nat.zero_le _, Nat.zero_le _⟩) (fun r4 hr4 => ?_)
      subst hr4
      refine kz_icmp_lt (tgt := 56) hx hb dX2_earnedBy_49 (by decide) (by omega) (by omega) (fun c49 => ?_) (fun c49 => ?_)
      · refine lv_iconst (v := iz (0)) hx hb dX2_earnedBy_56 (by decide) ?_
        refine lv_istore (lv' := [(5, .int (iz (0))), (0, .ref h0), (1, .int (iz (((k : Nat) : Int)))), (2, .int (iz (dd))), (3, .int (iz (dd * Z (10 + k) * Z 3 / 100 + lk_cs Z k dd n))), (4, .int (iz (((n : Nat) : Int))))]) hx hb dX2_earnedBy_57 hl (by decide) rfl (fun ls hl => ?_)
        refine lv_iload_n hx hb dX2_earnedBy_59 rfl (lv_at hl 4 rfl) ?_
        refine lv_iload hx hb dX2_earnedBy_60 (lv_at hl 0 rfl) ?_
        refine kz_if_eq (tgt := 75) hx hb dX2_earnedBy_62 (by decide) (by omega) (fun c62 => ?_) (fun c62 => False.elim (by omega))
        refine lv_aload_n hx hb dX2_earnedBy_75 rfl (lv_at hl 1 rfl) ?_
        refine lv_iload hx hb dX2_earnedBy_76 (lv_at hl 5 rfl) ?_
        refine lv_iconst (v := iz (3)) hx hb dX2_earnedBy_78 (by decide) ?_
        refine kc_i (va_runV (As := [.int (iz (((n : Nat) : Int))), .int (iz (3))]) (rest := [.int (iz (dd * Z (10 + k) * Z 3 / 100 + lk_cs Z k dd n))]) ⟨hx, hb, hml, hown, hts⟩ (c_X2_contractPart l D T h0 h1 Z ve n (by omega) 3 (by omega)) (cwV 2 hts gX2_earnedBy_X2_contractPart rfl rfl rfl (by decide +kernel) ⟨Nat.le_of_ble_eq_true rfl, Nat.le_of_ble_eq_true rfl⟩) (kPc.v hK (va_recv hK.1 hP (ci := 2) (q0 := 0) rfl rfl) (kcut hP [0, 1] rfl)) rfl rfl hl.1 rfl (lv_room (Nat.le_of_ble_eq_true rfl)) dX2_earnedBy_79 ⟨Nat.zero_le _, Nat.zero_le _⟩) (fun r5 hr5 => ?_)
        subst hr5
        refine kz_neg hx hb dX2_earnedBy_82 ?_
        refine kz_add hx hb dX2_earnedBy_83 ?_
        refine lv_istore_n (lv' := [(3, .int (iz ((dd * Z (10 + k) * Z 3 / 100 + lk_cs Z k dd n) + (-(Z (82 + n * 4 + 3)))))), (5, .int (iz (0))), (0, .ref h0), (1, .int (iz (((k : Nat) : Int)))), (2, .int (iz (dd))), (4, .int (iz (((n : Nat) : Int))))]) hx hb dX2_earnedBy_84 rfl hl (by decide) rfl (fun ls hl => ?_)
        refine kz_iinc (b := ((n + 1 : Nat) : Int)) (lv' := [(4, .int (iz (((n + 1 : Nat) : Int)))), (3, .int (iz ((dd * Z (10 + k) * Z 3 / 100 + lk_cs Z k dd n) + (-(Z (82 + n * 4 + 3)))))), (5, .int (iz (0))), (0, .ref h0), (1, .int (iz (((k : Nat) : Int)))), (2, .int (iz (dd)))]) hx hb dX2_earnedBy_85 hl (k := 5) rfl (by omega) (by decide) rfl (fun ls hl => ?_)
        refine lv_goto (tgt := 21) hx hb dX2_earnedBy_88 (by decide) ?_
        have hl : lv_has ls 6 [(4, .int (iz (((n + 1 : Nat) : Int)))), (3, .int (iz (dd * Z (10 + k) * Z 3 / 100 + lk_cs Z k dd (n + 1)))), (5, .int (iz (0))), (0, .ref h0), (1, .int (iz (((k : Nat) : Int)))), (2, .int (iz (dd)))] := by rw [← (show ((dd * Z (10 + k) * Z 3 / 100 + lk_cs Z k dd n) + (-(Z (82 + n * 4 + 3))) : Int) = dd * Z (10 + k) * Z 3 / 100 + lk_cs Z k dd (n + 1) from (by simp only [lk_cs]; split <;> (try split) <;> omega))]; exact hl
        exact ih21 (n + 1) _ ⟨(by omega), lv_sub hl [3, 4, 5, 1, 0] rfl⟩ (by omega)
      · refine lv_iconst (v := iz (1)) hx hb dX2_earnedBy_52 (by decide) ?_
        refine lv_goto (tgt := 57) hx hb dX2_earnedBy_53 (by decide) ?_
        refine lv_istore (lv' := [(5, .int (iz (1))), (0, .ref h0), (1, .int (iz (((k : Nat) : Int)))), (2, .int (iz (dd))), (3, .int (iz (dd * Z (10 + k) * Z 3 / 100 + lk_cs Z k dd n))), (4, .int (iz (((n : Nat) : Int))))]) hx hb dX2_earnedBy_57 hl (by decide) rfl (fun ls hl => ?_)
        refine lv_iload_n hx hb dX2_earnedBy_59 rfl (lv_at hl 4 rfl) ?_
        refine lv_iload hx hb dX2_earnedBy_60 (lv_at hl 0 rfl) ?_
        refine kz_if_eq (tgt := 75) hx hb dX2_earnedBy_62 (by decide) (by omega) (fun c62 => False.elim (by omega)) (fun c62 => ?_)
        refine lv_aload_n hx hb dX2_earnedBy_65 rfl (lv_at hl 1 rfl) ?_
        refine lv_iload hx hb dX2_earnedBy_66 (lv_at hl 5 rfl) ?_
        refine lv_iconst (v := iz (2)) hx hb dX2_earnedBy_68 (by decide) ?_
        refine kc_i (va_runV (As := [.int (iz (((n : Nat) : Int))), .int (iz (2))]) (rest := [.int (iz (dd * Z (10 + k) * Z 3 / 100 + lk_cs Z k dd n))]) ⟨hx, hb, hml, hown, hts⟩ (c_X2_contractPart l D T h0 h1 Z ve n (by omega) 2 (by omega)) (cwV 2 hts gX2_earnedBy_X2_contractPart rfl rfl rfl (by decide +kernel) ⟨Nat.le_of_ble_eq_true rfl, Nat.le_of_ble_eq_true rfl⟩) (kPc.v hK (va_recv hK.1 hP (ci := 2) (q0 := 0) rfl rfl) (kcut hP [0, 1] rfl)) rfl rfl hl.1 rfl (lv_room (Nat.le_of_ble_eq_true rfl)) dX2_earnedBy_69 ⟨Nat.zero_le _, Nat.zero_le _⟩) (fun r6 hr6 => ?_)
        subst hr6
        refine lv_goto (tgt := 83) hx hb dX2_earnedBy_72 (by decide) ?_
        refine kz_add hx hb dX2_earnedBy_83 ?_
        refine lv_istore_n (lv' := [(3, .int (iz ((dd * Z (10 + k) * Z 3 / 100 + lk_cs Z k dd n) + (Z (82 + n * 4 + 2))))), (5, .int (iz (1))), (0, .ref h0), (1, .int (iz (((k : Nat) : Int)))), (2, .int (iz (dd))), (4, .int (iz (((n : Nat) : Int))))]) hx hb dX2_earnedBy_84 rfl hl (by decide) rfl (fun ls hl => ?_)
        refine kz_iinc (b := ((n + 1 : Nat) : Int)) (lv' := [(4, .int (iz (((n + 1 : Nat) : Int)))), (3, .int (iz ((dd * Z (10 + k) * Z 3 / 100 + lk_cs Z k dd n) + (Z (82 + n * 4 + 2))))), (5, .int (iz (1))), (0, .ref h0), (1, .int (iz (((k : Nat) : Int)))), (2, .int (iz (dd)))]) hx hb dX2_earnedBy_85 hl (k := 5) rfl (by omega) (by decide) rfl (fun ls hl => ?_)
        refine lv_goto (tgt := 21) hx hb dX2_earnedBy_88 (by decide) ?_
        have hl : lv_has ls 6 [(4, .int (iz (((n + 1 : Nat) : Int)))), (3, .int (iz (dd * Z (10 + k) * Z 3 / 100 + lk_cs Z k dd (n + 1)))), (5, .int (iz (1))), (0, .ref h0), (1, .int (iz (((k : Nat) : Int)))), (2, .int (iz (dd)))] := by rw [← (show ((dd * Z (10 + k) * Z 3 / 100 + lk_cs Z k dd n) + (Z (82 + n * 4 + 2)) : Int) = dd * Z (10 + k) * Z 3 / 100 + lk_cs Z k dd (n + 1) from (by simp only [lk_cs]; split <;> (try split) <;> omega))]; exact hl
        exact ih21 (n + 1) _ ⟨(by omega), lv_sub hl [3, 4, 5, 1, 0] rfl⟩ (by omega)
set_option maxHeartbeats 4000000 in
set_option maxRecDepth 100000 in
theorem c_X2_missedIn (l : Launch) (D : va_G) (T : Nat → ClassId) (h0 : Nat) (h1 : Nat) (Z : Nat → Int) (ve : Int) (k : Nat) (hk : k < 24) (dd : Int) (hV : VL Z) (hd : 0 ≤ dd ∧ dd ≤ 30) : Met l yX2_missedIn wsX2_missedIn ({ frames := 1, cells := 0, slots := 0, locals := 23 }) (kPc D T [.ref h0, .int (iz (((k : Nat) : Int))), .int (iz (dd))] (va_P D vwCl [(h0, .inr (2, [.ref h1, .int (iz (ve))])), (h1, .inl (T 0, 115, .inl (zA Z)))])) (vp_Si (fun r : Int32 => r = iz (lk_missed Z k dd))) 0 0 (fun _ => False) := by
  refine Met.ofW (cc := cX2_missedIn) (maxL := 5) (ret := (some .int)) (by decide) rfl ?_
  intro p e s m args below meth c s₁ B hml hv
  obtain ⟨rfl, hK, hP⟩ := hv
  have hx := B.exec
  have hb := B.bytes
  have hr := B.returns
  have hts := atoms_spec (ws := wsX2_missedIn) B.pre
  have hown : s.vm.findClass RX2 = some m.cls := findClass_of_methodNamed B.named
  have hlocks := B.notSynchronized
  have hP : va_P D vwCl [(h0, .inr (2, [.ref h1, .int (iz (ve))])), (h1, .inl (T 0, 115, .inl (zA Z)))] s.heap := hP
  have hl := lv_entry ([.ref h0, .int (iz (((k : Nat) : Int))), .int (iz (dd))]) (n := 5) (Nat.le_of_ble_eq_true rfl)
  rw [lg_entry_eq]
  generalize (lg_sl ([.ref h0, .int (iz (((k : Nat) : Int))), .int (iz (dd))]) ++ List.replicate (5 - (lg_sl ([.ref h0, .int (iz (((k : Nat) : Int))), .int (iz (dd))])).length) Slot.unset).toArray = ls at hl ⊢
  have hl : lv_has ls 5 [(0, .ref h0), (1, .int (iz (((k : Nat) : Int)))), (2, .int (iz (dd)))] := hl
  have hs := hV.1
  unfold VS at hs
  refine lv_iconst (v := iz (0)) hx hb dX2_missedIn_0 (by decide) ?_
  refine lv_istore_n (lv' := [(3, .int (iz (0))), (0, .ref h0), (1, .int (iz (((k : Nat) : Int)))), (2, .int (iz (dd)))]) hx hb dX2_missedIn_1 rfl hl (by decide) rfl (fun ls hl => ?_)
  refine lv_iconst (v := iz (0)) hx hb dX2_missedIn_2 (by decide) ?_
  refine lv_istore (lv' := [(4, .int (iz (0))), (3, .int (iz (0))), (0, .ref h0), (1, .int (iz (((k : Nat) : Int)))), (2, .int (iz (dd)))]) hx hb dX2_missedIn_3 hl (by decide) rfl (fun ls hl => ?_)
  have hl : lv_has ls 5 [(4, .int (iz (0))), (3, .int (iz (lk_miss Z k dd 0))), (0, .ref h0), (1, .int (iz (((k : Nat) : Int)))), (2, .int (iz (dd)))] := by rw [← (show (0 : Int) = lk_miss Z k dd 0 from rfl)]; exact hl
  have hl : lv_has ls 5 [(4, .int (iz (((0 : Nat) : Int)))), (3, .int (iz (lk_miss Z k dd 0))), (0, .ref h0), (1, .int (iz (((k : Nat) : Int)))), (2, .int (iz (dd)))] := by rw [← (show (0 : Int) = ((0 : Nat) : Int) from (by first | rfl | omega))]; exact hl
  refine kz_loopR1 (pc := 5) (I := fun (n : Nat) (ls : Array Slot) => ((n : Int) ≤ Z 114) ∧ lv_has ls 5 [(0, .ref h0), (1, .int (iz (((k : Nat) : Int)))), (2, .int (iz (dd))), (3, .int (iz (lk_miss Z k dd n))), (4, .int (iz (((n : Nat) : Int))))]) (μ := fun (n : Nat) => 8 - n) 0 ⟨(by omega), lv_sub hl [2, 3, 4, 1, 0] rfl⟩ ?_
  rintro n ls ⟨hn, hl⟩ ih5
  refine lv_iload hx hb dX2_missedIn_5 (lv_at hl 4 rfl) ?_
  refine lv_aload_n hx hb dX2_missedIn_7 rfl (lv_at hl 0 rfl) ?_
  refine kc_i (va_runV (As := []) (rest := [.int (iz (((n : Nat) : Int)))]) ⟨hx, hb, hml, hown, hts⟩ (c_X2_contracts l D T h0 h1 Z ve) (cwV 0 hts gX2_missedIn_X2_contracts rfl rfl rfl (by decide +kernel) ⟨Nat.le_of_ble_eq_true rfl, Nat.le_of_ble_eq_true rfl⟩) (kPc.v hK (va_recv hK.1 hP (ci := 2) (q0 := 0) rfl rfl) (kcut hP [0, 1] rfl)) rfl rfl hl.1 rfl (lv_room (Nat.le_of_ble_eq_true rfl)) dX2_missedIn_8 ⟨Nat.zero_le _, Nat.zero_le _⟩) (fun r1 hr1 => ?_)
  subst hr1
  refine kz_icmp_ge (tgt := 45) hx hb dX2_missedIn_11 (by decide) (by omega) (by omega) (fun c11 => ?_) (fun c11 => ?_)
  · have hnn : (Z 114).toNat = n := by omega
    refine lv_iload_n hx hb dX2_missedIn_45 rfl (lv_at hl 3 rfl) ?_
    exact W.iret hx hb hr (fun t ht _ => ⟨_, rfl, (congrArg iz (by unfold lk_missed; rw [hnn])), ht⟩) (fun _ h => absurd h List.not_mem_nil) dX2_missedIn_46
  · have hcc := hV.2.2 n (by omega)
    refine lv_aload_n hx hb dX2_missedIn_14 rfl (lv_at hl 0 rfl) ?_
    refine lv_iload hx hb dX2_missedIn_15 (lv_at hl 4 rfl) ?_
    refine lv_iconst (v := iz (0)) hx hb dX2_missedIn_17 (by decide) ?_
    refine kc_i (va_runV (As := [.int (iz (((n : Nat) : Int))), .int (iz (0))]) (rest := []) ⟨hx, hb, hml, hown, hts⟩ (c_X2_contractPart l D T h0 h1 Z ve n (by omega) 0 (by omega)) (cwV 2 hts gX2_missedIn_X2_contractPart rfl rfl rfl (by decide +kernel) ⟨Nat.le_of_ble_eq_true rfl, Nat.le_of_ble_eq_true rfl⟩) (kPc.v hK (va_recv hK.1 hP (ci := 2) (q0 := 0) rfl rfl) (kcut hP [0, 1] rfl)) rfl rfl hl.1 rfl (lv_room (Nat.le_of_ble_eq_true rfl)) dX2_missedIn_18 ⟨Nat.zero_le _, Nat.zero_le _⟩) (fun r2 hr2 => ?_)
    subst hr2
    refine lv_iload_n hx hb dX2_missedIn_21 rfl (lv_at hl 1 rfl) ?_
    refine kz_icmp_ne (tgt := 39) hx hb dX2_missedIn_22 (by decide) (by omega) (by omega) (fun c22 => ?_) (fun c22 => ?_)
    · refine kz_iinc (b := ((n + 1 : Nat) : Int)) (lv' := [(4, .int (iz (((n + 1 : Nat) : Int)))), (0, .ref h0), (1, .int (iz (((k : Nat) : Int)))), (2, .int (iz (dd))), (3, .int (iz (lk_miss Z k dd n)))]) hx hb dX2_missedIn_39 hl (k := 4) rfl (by omega) (by decide) rfl (fun ls hl => ?_)
      refine lv_goto (tgt := 5) hx hb dX2_missedIn_42 (by decide) ?_
      have hl : lv_has ls 5 [(4, .int (iz (((n + 1 : Nat) : Int)))), (0, .ref h0), (1, .int (iz (((k : Nat) : Int)))), (2, .int (iz (dd))), (3, .int (iz (lk_miss Z k dd (n + 1))))] := by rw [← (show (lk_miss Z k dd n : Int) = lk_miss Z k dd (n + 1) from (by simp only [lk_miss]; split <;> omega))]; exact hl
      exact ih5 (n + 1) _ ⟨(by omega), lv_sub hl [1, 2, 3, 4, 0] rfl⟩ (by omega)
    · refine lv_iload_n hx hb dX2_missedIn_25 rfl (lv_at hl 2 rfl) ?_
      refine lv_aload_n hx hb dX2_missedIn_26 rfl (lv_at hl 0 rfl) ?_
      refine lv_iload hx hb dX2_missedIn_27 (lv_at hl 4 rfl) ?_
      refine lv_iconst (v := iz (1)) hx hb dX2_missedIn_29 (by decide) ?_
      refine kc_i (va_runV (As := [.int (iz (((n : Nat) : Int))), .int (iz (1))]) (rest := [.int (iz (dd))]) ⟨hx, hb, hml, hown, hts⟩ (c_X2_contractPart l D T h0 h1 Z ve n (by omega) 1 (by omega)) (cwV 2 hts gX2_missedIn_X2_contractPart rfl rfl rfl (by decide +kernel) ⟨Nat.le_of_ble_eq_true rfl, Nat.le_of_ble_eq_true rfl⟩) (kPc.v hK (va_recv hK.1 hP (ci := 2) (q0 := 0) rfl rfl) (kcut hP [0, 1] rfl)) rfl rfl hl.1 rfl (lv_room (Nat.le_of_ble_eq_true rfl)) dX2_missedIn_30 ⟨Nat.zero_le _, Nat.zero_le _⟩) (fun r3 hr3 => ?_)
      subst hr3
      refine kz_icmp_ge (tgt := 39) hx hb dX2_missedIn_33 (by decide) (by omega) (by omega) (fun c33 => ?_) (fun c33 => ?_)
      · refine kz_iinc (b := ((n + 1 : Nat) : Int)) (lv' := [(4, .int (iz (((n + 1 : Nat) : Int)))), (0, .ref h0), (1, .int (iz (((k : Nat) : Int)))), (2, .int (iz (dd))), (3, .int (iz (lk_miss Z k dd n)))]) hx hb dX2_missedIn_39 hl (k := 4) rfl (by omega) (by decide) rfl (fun ls hl => ?_)
        refine lv_goto (tgt := 5) hx hb dX2_missedIn_42 (by decide) ?_
        have hl : lv_has ls 5 [(4, .int (iz (((n + 1 : Nat) : Int)))), (0, .ref h0), (1, .int (iz (((k : Nat) : Int)))), (2, .int (iz (dd))), (3, .int (iz (lk_miss Z k dd (n + 1))))] := by rw [← (show (lk_miss Z k dd n : Int) = lk_miss Z k dd (n + 1) from (by simp only [lk_miss]; split <;> omega))]; exact hl
        exact ih5 (n + 1) _ ⟨(by omega), lv_sub hl [1, 2, 3, 4, 0] rfl⟩ (by omega)
      · refine kz_iinc (b := (lk_miss Z k dd n) + 1) (lv' := [(3, .int (iz ((lk_miss Z k dd n) + 1))), (0, .ref h0), (1, .int (iz (((k : Nat) : Int)))), (2, .int (iz (dd))), (4, .int (iz (((n : Nat) : Int))))]) hx hb dX2_missedIn_36 hl (k := 3) rfl (by omega) (by decide) rfl (fun ls hl => ?_)
        refine kz_iinc (b := ((n + 1 : Nat) : Int)) (lv' := [(4, .int (iz (((n + 1 : Nat) : Int)))), (3, .int (iz ((lk_miss Z k dd n) + 1))), (0, .ref h0), (1, .int (iz (((k : Nat) : Int)))), (2, .int (iz (dd)))]) hx hb dX2_missedIn_39 hl (k := 4) rfl (by omega) (by decide) rfl (fun ls hl => ?_)
        refine lv_goto (tgt := 5) hx hb dX2_missedIn_42 (by decide) ?_
        have hl : lv_has ls 5 [(4, .int (iz (((n + 1 : Nat) : Int)))), (3, .int (iz (lk_miss Z k dd (n + 1)))), (0, .ref h0), (1, .int (iz (((k : Nat) : Int)))), (2, .int (iz (dd)))] := by rw [← (show ((lk_miss Z k dd n) + 1 : Int) = lk_miss Z k dd (n + 1) from (by simp only [lk_miss]; split <;> omega))]; exact hl
        exact ih5 (n + 1) _ ⟨(by omega), lv_sub hl [2, 3, 4, 1, 0] rfl⟩ (by omega)
set_option maxHeartbeats 4000000 in
set_option maxRecDepth 100000 in
theorem c_X2_highestInTheEnd (l : Launch) (D : va_G) (T : Nat → ClassId) (h0 : Nat) (h1 : Nat) (Z : Nat → Int) (ve : Int) (hV : VL Z) : Met l yX2_highestInTheEnd wsX2_highestInTheEnd ({ frames := 3, cells := 0, slots := 0, locals := 69 }) (kPc D T [.ref h0] (va_P D vwCl [(h0, .inr (2, [.ref h1, .int (iz (ve))])), (h1, .inl (T 0, 115, .inl (zA Z)))])) (vp_Si (fun r : Int32 => r = iz (lk_top Z 24))) 0 0 (fun _ => False) := by
  refine Met.ofW (cc := cX2_highestInTheEnd) (maxL := 3) (ret := (some .int)) (by decide) rfl ?_
  intro p e s m args below meth c s₁ B hml hv
  obtain ⟨rfl, hK, hP⟩ := hv
  have hx := B.exec
  have hb := B.bytes
  have hr := B.returns
  have hts := atoms_spec (ws := wsX2_highestInTheEnd) B.pre
  have hown : s.vm.findClass RX2 = some m.cls := findClass_of_methodNamed B.named
  have hlocks := B.notSynchronized
  have w0 := hts (.fieldLink RX2 11 "LakePlant$Lake" "cells" "[I") (List.mem_of_getElem? (i := 1) rfl)
  have w1 : ∀ w ∈ wsX20, w ∈ wsX2_highestInTheEnd := by decide +kernel
  have hP : va_P D vwCl [(h0, .inr (2, [.ref h1, .int (iz (ve))])), (h1, .inl (T 0, 115, .inl (zA Z)))] s.heap := hP
  have hl := lv_entry ([.ref h0]) (n := 3) (Nat.le_of_ble_eq_true rfl)
  rw [lg_entry_eq]
  generalize (lg_sl ([.ref h0]) ++ List.replicate (3 - (lg_sl ([.ref h0])).length) Slot.unset).toArray = ls at hl ⊢
  have hl : lv_has ls 3 [(0, .ref h0)] := hl
  have hs := hV.1
  unfold VS at hs
  refine lv_aload_n hx hb dX2_highestInTheEnd_0 rfl (lv_at hl 0 rfl) ?_
  refine va_get (D := D) (ci := 2) (C := RX2) (T := TX2) (N := 2) hx hb hts w1 hown hK.1 hP 0 rfl rfl 0 (by decide) w0 (fun _ h9 => h9) rfl dX2_highestInTheEnd_1 ?_
  refine lv_bipush (v := iz (7)) hx hb dX2_highestInTheEnd_4 (by decide) ?_
  refine kz_iald hx hb hK hP (1) rfl (7) (by omega) (by omega) (by omega) dX2_highestInTheEnd_6 ?_
  refine lv_istore_n (lv' := [(1, .int (iz (Z 7))), (0, .ref h0)]) hx hb dX2_highestInTheEnd_7 rfl hl (by decide) rfl (fun ls hl => ?_)
  refine lv_iconst (v := iz (0)) hx hb dX2_highestInTheEnd_8 (by decide) ?_
  refine lv_istore_n (lv' := [(2, .int (iz (0))), (1, .int (iz (Z 7))), (0, .ref h0)]) hx hb dX2_highestInTheEnd_9 rfl hl (by decide) rfl (fun ls hl => ?_)
  have hl : lv_has ls 3 [(2, .int (iz (0))), (1, .int (iz (lk_top Z 0))), (0, .ref h0)] := by rw [← (show (Z 7 : Int) = lk_top Z 0 from rfl)]; exact hl
  have hl : lv_has ls 3 [(2, .int (iz (((0 : Nat) : Int)))), (1, .int (iz (lk_top Z 0))), (0, .ref h0)] := by rw [← (show (0 : Int) = ((0 : Nat) : Int) from (by first | rfl | omega))]; exact hl
  refine kz_loopR1 (pc := 10) (I := fun (n : Nat) (ls : Array Slot) => (n ≤ 24) ∧ lv_has ls 3 [(0, .ref h0), (1, .int (iz (lk_top Z n))), (2, .int (iz (((n : Nat) : Int))))]) (μ := fun (n : Nat) => 24 - n) 0 ⟨(by omega), lv_sub hl [2, 1, 0] rfl⟩ ?_
  rintro n ls ⟨hn, hl⟩ ih10
  have htp := lk_top_rng hV n hn
  refine lv_iload_n hx hb dX2_highestInTheEnd_10 rfl (lv_at hl 2 rfl) ?_
  refine lv_bipush (v := iz (24)) hx hb dX2_highestInTheEnd_11 (by decide) ?_
  refine kz_icmp_ge (tgt := 36) hx hb dX2_highestInTheEnd_13 (by decide) (by omega) (by omega) (fun c13 => ?_) (fun c13 => ?_)
  · have hnn : n = 24 := by omega
    subst hnn
    refine lv_iload_n hx hb dX2_highestInTheEnd_36 rfl (lv_at hl 1 rfl) ?_
    exact W.iret hx hb hr (fun t ht _ => ⟨_, rfl, rfl, ht⟩) (fun _ h => absurd h List.not_mem_nil) dX2_highestInTheEnd_37
  · refine lv_aload_n hx hb dX2_highestInTheEnd_16 rfl (lv_at hl 0 rfl) ?_
    refine lv_iload_n hx hb dX2_highestInTheEnd_17 rfl (lv_at hl 2 rfl) ?_
    refine lv_iload_n hx hb dX2_highestInTheEnd_18 rfl (lv_at hl 1 rfl) ?_
    refine lv_aload_n hx hb dX2_highestInTheEnd_19 rfl (lv_at hl 0 rfl) ?_
    refine va_get (D := D) (ci := 2) (C := RX2) (T := TX2) (N := 2) hx hb hts w1 hown hK.1 hP 0 rfl rfl 0 (by decide) w0 (fun _ h9 => h9) rfl dX2_highestInTheEnd_20 ?_
    refine lv_iconst (v := iz (0)) hx hb dX2_highestInTheEnd_23 (by decide) ?_
    refine kz_iald hx hb hK hP (1) rfl (0) (by omega) (by omega) (by omega) dX2_highestInTheEnd_24 ?_
    refine kz_neg hx hb dX2_highestInTheEnd_25 ?_
    refine kc_i (va_runV (As := [.int (iz (((n : Nat) : Int))), .int (iz (lk_top Z n)), .int (iz (-(Z 0)))]) (rest := []) ⟨hx, hb, hml, hown, hts⟩ (c_X2_levelBehind l D T h0 h1 Z ve n (by omega) (lk_top Z n) (-(Z 0)) hV (by omega) (by omega)) (cwV 3 hts gX2_highestInTheEnd_X2_levelBehind rfl rfl rfl (by decide +kernel) ⟨Nat.le_of_ble_eq_true rfl, Nat.le_of_ble_eq_true rfl⟩) (kPc.v hK (va_recv hK.1 hP (ci := 2) (q0 := 0) rfl rfl) (kcut hP [0, 1] rfl)) rfl rfl hl.1 rfl (lv_room (Nat.le_of_ble_eq_true rfl)) dX2_highestInTheEnd_26 ⟨Nat.zero_le _, Nat.zero_le _⟩) (fun r1 hr1 => ?_)
    subst hr1
    refine lv_istore_n (lv' := [(1, .int (iz (lk_behind Z n (lk_top Z n) (-(Z 0))))), (0, .ref h0), (2, .int (iz (((n : Nat) : Int))))]) hx hb dX2_highestInTheEnd_29 rfl hl (by decide) rfl (fun ls hl => ?_)
    refine kz_iinc (b := ((n + 1 : Nat) : Int)) (lv' := [(2, .int (iz (((n + 1 : Nat) : Int)))), (1, .int (iz (lk_behind Z n (lk_top Z n) (-(Z 0))))), (0, .ref h0)]) hx hb dX2_highestInTheEnd_30 hl (k := 2) rfl (by omega) (by decide) rfl (fun ls hl => ?_)
    refine lv_goto (tgt := 10) hx hb dX2_highestInTheEnd_33 (by decide) ?_
    have hl : lv_has ls 3 [(2, .int (iz (((n + 1 : Nat) : Int)))), (1, .int (iz (lk_top Z (n + 1)))), (0, .ref h0)] := by rw [← (show (lk_behind Z n (lk_top Z n) (-(Z 0)) : Int) = lk_top Z (n + 1) from rfl)]; exact hl
    exact ih10 (n + 1) _ ⟨(by omega), lv_sub hl [2, 1, 0] rfl⟩ (by omega)
set_option maxHeartbeats 4000000 in
set_option maxRecDepth 100000 in
theorem c_X2_allInflows (l : Launch) (D : va_G) (T : Nat → ClassId) (h0 : Nat) (h1 : Nat) (Z : Nat → Int) (ve : Int) : Met l yX2_allInflows wsX2_allInflows ({ frames := 1, cells := 0, slots := 0, locals := 21 }) (kPc D T [.ref h0] (va_P D vwCl [(h0, .inr (2, [.ref h1, .int (iz (ve))])), (h1, .inl (T 0, 115, .inl (zA Z)))])) (vp_Si (fun r : Int32 => r = iz (zsum (fun h => Z (34 + h)) 24))) 0 0 (fun _ => False) := by
  refine Met.ofW (cc := cX2_allInflows) (maxL := 3) (ret := (some .int)) (by decide) rfl ?_
  intro p e s m args below meth c s₁ B hml hv
  obtain ⟨rfl, hK, hP⟩ := hv
  have hx := B.exec
  have hb := B.bytes
  have hr := B.returns
  have hts := atoms_spec (ws := wsX2_allInflows) B.pre
  have hown : s.vm.findClass RX2 = some m.cls := findClass_of_methodNamed B.named
  have hlocks := B.notSynchronized
  have hP : va_P D vwCl [(h0, .inr (2, [.ref h1, .int (iz (ve))])), (h1, .inl (T 0, 115, .inl (zA Z)))] s.heap := hP
  have hl := lv_entry ([.ref h0]) (n := 3) (Nat.le_of_ble_eq_true rfl)
  rw [lg_entry_eq]
  generalize (lg_sl ([.ref h0]) ++ List.replicate (3 - (lg_sl ([.ref h0])).length) Slot.unset).toArray = ls at hl ⊢
  have hl : lv_has ls 3 [(0, .ref h0)] := hl
  refine lv_iconst (v := iz (0)) hx hb dX2_allInflows_0 (by decide) ?_
  refine lv_istore_n (lv' := [(1, .int (iz (0))), (0, .ref h0)]) hx hb dX2_allInflows_1 rfl hl (by decide) rfl (fun ls hl => ?_)
  refine lv_iconst (v := iz (0)) hx hb dX2_allInflows_2 (by decide) ?_
  refine lv_istore_n (lv' := [(2, .int (iz (0))), (1, .int (iz (0))), (0, .ref h0)]) hx hb dX2_allInflows_3 rfl hl (by decide) rfl (fun ls hl => ?_)
  have hl : lv_has ls 3 [(2, .int (iz (0))), (1, .int (iz (zsum (fun h => Z (34 + h)) 0))), (0, .ref h0)] := by rw [← (show (0 : Int) = zsum (fun h => Z (34 + h)) 0 from rfl)]; exact hl
  have hl : lv_has ls 3 [(2, .int (iz (((0 : Nat) : Int)))), (1, .int (iz (zsum (fun h => Z (34 + h)) 0))), (0, .ref h0)] := by rw [← (show (0 : Int) = ((0 : Nat) : Int) from (by first | rfl | omega))]; exact hl
  refine kz_loopR1 (pc := 4) (I := fun (n : Nat) (ls : Array Slot) => (n ≤ 24) ∧ lv_has ls 3 [(0, .ref h0), (1, .int (iz (zsum (fun h => Z (34 + h)) n))), (2, .int (iz (((n : Nat) : Int))))]) (μ := fun (n : Nat) => 24 - n) 0 ⟨(by omega), lv_sub hl [2, 1, 0] rfl⟩ ?_
  rintro n ls ⟨hn, hl⟩ ih4
  refine lv_iload_n hx hb dX2_allInflows_4 rfl (lv_at hl 2 rfl) ?_
  refine lv_bipush (v := iz (24)) hx hb dX2_allInflows_5 (by decide) ?_
  refine kz_icmp_ge (tgt := 24) hx hb dX2_allInflows_7 (by decide) (by omega) (by omega) (fun c7 => ?_) (fun c7 => ?_)
  · have hnn : n = 24 := by omega
    subst hnn
    refine lv_iload_n hx hb dX2_allInflows_24 rfl (lv_at hl 1 rfl) ?_
    exact W.iret hx hb hr (fun t ht _ => ⟨_, rfl, rfl, ht⟩) (fun _ h => absurd h List.not_mem_nil) dX2_allInflows_25
  · refine lv_iload_n hx hb dX2_allInflows_10 rfl (lv_at hl 1 rfl) ?_
    refine lv_aload_n hx hb dX2_allInflows_11 rfl (lv_at hl 0 rfl) ?_
    refine lv_iload_n hx hb dX2_allInflows_12 rfl (lv_at hl 2 rfl) ?_
    refine kc_i (va_runV (As := [.int (iz (((n : Nat) : Int)))]) (rest := [.int (iz (zsum (fun h => Z (34 + h)) n))]) ⟨hx, hb, hml, hown, hts⟩ (c_X2_inflowOf l D T h0 h1 Z ve n (by omega)) (cwV 1 hts gX2_allInflows_X2_inflowOf rfl rfl rfl (by decide +kernel) ⟨Nat.le_of_ble_eq_true rfl, Nat.le_of_ble_eq_true rfl⟩) (kPc.v hK (va_recv hK.1 hP (ci := 2) (q0 := 0) rfl rfl) (kcut hP [0, 1] rfl)) rfl rfl hl.1 rfl (lv_room (Nat.le_of_ble_eq_true rfl)) dX2_allInflows_13 ⟨Nat.zero_le _, Nat.zero_le _⟩) (fun r1 hr1 => ?_)
    subst hr1
    refine kz_add hx hb dX2_allInflows_16 ?_
    refine lv_istore_n (lv' := [(1, .int (iz ((zsum (fun h => Z (34 + h)) n) + (Z (34 + n))))), (0, .ref h0), (2, .int (iz (((n : Nat) : Int))))]) hx hb dX2_allInflows_17 rfl hl (by decide) rfl (fun ls hl => ?_)
    refine kz_iinc (b := ((n + 1 : Nat) : Int)) (lv' := [(2, .int (iz (((n + 1 : Nat) : Int)))), (1, .int (iz ((zsum (fun h => Z (34 + h)) n) + (Z (34 + n))))), (0, .ref h0)]) hx hb dX2_allInflows_18 hl (k := 2) rfl (by omega) (by decide) rfl (fun ls hl => ?_)
    refine lv_goto (tgt := 4) hx hb dX2_allInflows_21 (by decide) ?_
    have hl : lv_has ls 3 [(2, .int (iz (((n + 1 : Nat) : Int)))), (1, .int (iz (zsum (fun h => Z (34 + h)) (n + 1)))), (0, .ref h0)] := by rw [← (show ((zsum (fun h => Z (34 + h)) n) + (Z (34 + n)) : Int) = zsum (fun h => Z (34 + h)) (n + 1) from rfl)]; exact hl
    exact ih4 (n + 1) _ ⟨(by omega), lv_sub hl [2, 1, 0] rfl⟩ (by omega)
set_option maxHeartbeats 4000000 in
set_option maxRecDepth 100000 in
theorem c_X2_plansAreFrom (l : Launch) (D : va_G) (T : Nat → ClassId) (h0 : Nat) (h1 : Nat) (Z : Nat → Int) (ve : Int) (lo : Int) (hi : Int) (hV : VL Z) (hlo : -1000 ≤ lo ∧ lo ≤ 1000) (hhi : -1000 ≤ hi ∧ hi ≤ 1000) : Met l yX2_plansAreFrom wsX2_plansAreFrom ({ frames := 1, cells := 0, slots := 0, locals := 21 }) (kPc D T [.ref h0, .int (iz (lo)), .int (iz (hi))] (va_P D vwCl [(h0, .inr (2, [.ref h1, .int (iz (ve))])), (h1, .inl (T 0, 115, .inl (zA Z)))])) (vp_Si (fun r : Int32 => ∃ z : Int, r = iz z ∧ (z = 0 ∨ z = 1) ∧ (z = 1 ↔ ∀ h : Nat, h < 24 → lo ≤ Z (58 + h) ∧ Z (58 + h) ≤ hi))) 0 0 (fun _ => False) := by
  refine Met.ofW (cc := cX2_plansAreFrom) (maxL := 4) (ret := (some .boolean)) (by decide) rfl ?_
  intro p e s m args below meth c s₁ B hml hv
  obtain ⟨rfl, hK, hP⟩ := hv
  have hx := B.exec
  have hb := B.bytes
  have hr := B.returns
  have hts := atoms_spec (ws := wsX2_plansAreFrom) B.pre
  have hown : s.vm.findClass RX2 = some m.cls := findClass_of_methodNamed B.named
  have hlocks := B.notSynchronized
  have hP : va_P D vwCl [(h0, .inr (2, [.ref h1, .int (iz (ve))])), (h1, .inl (T 0, 115, .inl (zA Z)))] s.heap := hP
  have hl := lv_entry ([.ref h0, .int (iz (lo)), .int (iz (hi))]) (n := 4) (Nat.le_of_ble_eq_true rfl)
  rw [lg_entry_eq]
  generalize (lg_sl ([.ref h0, .int (iz (lo)), .int (iz (hi))]) ++ List.replicate (4 - (lg_sl ([.ref h0, .int (iz (lo)), .int (iz (hi))])).length) Slot.unset).toArray = ls at hl ⊢
  have hl : lv_has ls 4 [(0, .ref h0), (1, .int (iz (lo))), (2, .int (iz (hi)))] := hl
  have hs := hV.1
  unfold VS at hs
  refine lv_iconst (v := iz (0)) hx hb dX2_plansAreFrom_0 (by decide) ?_
  refine lv_istore_n (lv' := [(3, .int (iz (0))), (0, .ref h0), (1, .int (iz (lo))), (2, .int (iz (hi)))]) hx hb dX2_plansAreFrom_1 rfl hl (by decide) rfl (fun ls hl => ?_)
  have hl : lv_has ls 4 [(3, .int (iz (((0 : Nat) : Int)))), (0, .ref h0), (1, .int (iz (lo))), (2, .int (iz (hi)))] := by rw [← (show (0 : Int) = ((0 : Nat) : Int) from (by first | rfl | omega))]; exact hl
  refine kz_loopR1 (pc := 2) (I := fun (n : Nat) (ls : Array Slot) => (n ≤ 24) ∧ (∀ h : Nat, h < n → lo ≤ Z (58 + h) ∧ Z (58 + h) ≤ hi) ∧ lv_has ls 4 [(0, .ref h0), (1, .int (iz (lo))), (2, .int (iz (hi))), (3, .int (iz (((n : Nat) : Int))))]) (μ := fun (n : Nat) => 24 - n) 0 ⟨(by omega), (fun h hh => absurd hh (Nat.not_lt_zero h)), lv_sub hl [1, 2, 3, 0] rfl⟩ ?_
  rintro n ls ⟨hn, hall, hl⟩ ih2
  refine lv_iload_n hx hb dX2_plansAreFrom_2 rfl (lv_at hl 3 rfl) ?_
  refine lv_bipush (v := iz (24)) hx hb dX2_plansAreFrom_3 (by decide) ?_
  refine kz_icmp_ge (tgt := 34) hx hb dX2_plansAreFrom_5 (by decide) (by omega) (by omega) (fun c5 => ?_) (fun c5 => ?_)
  · refine lv_iconst (v := iz (1)) hx hb dX2_plansAreFrom_34 (by decide) ?_
    exact W.zret hx hb hr (kz_nar (by omega)) (fun t ht _ => ⟨_, rfl, ⟨_, rfl, Or.inr rfl, ⟨fun _ h hh => hall h (by omega), fun _ => rfl⟩⟩, ht⟩) (fun _ h => absurd h List.not_mem_nil) dX2_plansAreFrom_35
  · have hz := (hV.2.1 n (by omega)).2.2
    refine lv_aload_n hx hb dX2_plansAreFrom_8 rfl (lv_at hl 0 rfl) ?_
    refine lv_iload_n hx hb dX2_plansAreFrom_9 rfl (lv_at hl 3 rfl) ?_
    refine kc_i (va_runV (As := [.int (iz (((n : Nat) : Int)))]) (rest := []) ⟨hx, hb, hml, hown, hts⟩ (c_X2_planOf l D T h0 h1 Z ve n (by omega)) (cwV 1 hts gX2_plansAreFrom_X2_planOf rfl rfl rfl (by decide +kernel) ⟨Nat.le_of_ble_eq_true rfl, Nat.le_of_ble_eq_true rfl⟩) (kPc.v hK (va_recv hK.1 hP (ci := 2) (q0 := 0) rfl rfl) (kcut hP [0, 1] rfl)) rfl rfl hl.1 rfl (lv_room (Nat.le_of_ble_eq_true rfl)) dX2_plansAreFrom_10 ⟨Nat.zero_le _, Nat.zero_le _⟩) (fun r1 hr1 => ?_)
    subst hr1
    refine lv_iload_n hx hb dX2_plansAreFrom_13 rfl (lv_at hl 1 rfl) ?_
    refine kz_icmp_lt (tgt := 26) hx hb dX2_plansAreFrom_14 (by decide) (by omega) (by omega) (fun c14 => ?_) (fun c14 => ?_)
    · refine lv_iconst (v := iz (0)) hx hb dX2_plansAreFrom_26 (by decide) ?_
      exact W.zret hx hb hr (kz_nar (by omega)) (fun t ht _ => ⟨_, rfl, ⟨_, rfl, Or.inl rfl, ⟨fun h => by omega, fun h => by have := h n (by omega); omega⟩⟩, ht⟩) (fun _ h => absurd h List.not_mem_nil) dX2_plansAreFrom_27
    · refine lv_aload_n hx hb dX2_plansAreFrom_17 rfl (lv_at hl 0 rfl) ?_
      refine lv_iload_n hx hb dX2_plansAreFrom_18 rfl (lv_at hl 3 rfl) ?_
      refine kc_i (va_runV (As := [.int (iz (((n : Nat) : Int)))]) (rest := []) ⟨hx, hb, hml, hown, hts⟩ (c_X2_planOf l D T h0 h1 Z ve n (by omega)) (cwV 1 hts gX2_plansAreFrom_X2_planOf rfl rfl rfl (by decide +kernel) ⟨Nat.le_of_ble_eq_true rfl, Nat.le_of_ble_eq_true rfl⟩) (kPc.v hK (va_recv hK.1 hP (ci := 2) (q0 := 0) rfl rfl) (kcut hP [0, 1] rfl)) rfl rfl hl.1 rfl (lv_room (Nat.le_of_ble_eq_true rfl)) dX2_plansAreFrom_19 ⟨Nat.zero_le _, Nat.zero_le _⟩) (fun r2 hr2 => ?_)
      subst hr2
      refine lv_iload_n hx hb dX2_plansAreFrom_22 rfl (lv_at hl 2 rfl) ?_
      refine kz_icmp_le (tgt := 28) hx hb dX2_plansAreFrom_23 (by decide) (by omega) (by omega) (fun c23 => ?_) (fun c23 => ?_)
      · refine kz_iinc (b := ((n + 1 : Nat) : Int)) (lv' := [(3, .int (iz (((n + 1 : Nat) : Int)))), (0, .ref h0), (1, .int (iz (lo))), (2, .int (iz (hi)))]) hx hb dX2_plansAreFrom_28 hl (k := 3) rfl (by omega) (by decide) rfl (fun ls hl => ?_)
        refine lv_goto (tgt := 2) hx hb dX2_plansAreFrom_31 (by decide) ?_
        exact ih2 (n + 1) _ ⟨(by omega), (fun h hh => by rcases Nat.lt_or_ge h n with q | q; exact hall h q; rw [show h = n by omega]; omega), lv_sub hl [1, 2, 3, 0] rfl⟩ (by omega)
      · refine lv_iconst (v := iz (0)) hx hb dX2_plansAreFrom_26 (by decide) ?_
        exact W.zret hx hb hr (kz_nar (by omega)) (fun t ht _ => ⟨_, rfl, ⟨_, rfl, Or.inl rfl, ⟨fun h => by omega, fun h => by have := h n (by omega); omega⟩⟩, ht⟩) (fun _ h => absurd h List.not_mem_nil) dX2_plansAreFrom_27
set_option maxHeartbeats 4000000 in
set_option maxRecDepth 100000 in
theorem c_X2_fitsTheRest (l : Launch) (D : va_G) (T : Nat → ClassId) (h0 : Nat) (h1 : Nat) (Z : Nat → Int) (ve : Int) (st : Int) (vv : Int) (hV : VL Z) (hst : 0 ≤ st ∧ st < 10) (hvv : 0 ≤ vv ∧ vv ≤ 999) : Met l yX2_fitsTheRest wsX2_fitsTheRest ({ frames := 2, cells := 0, slots := 0, locals := 44 }) (kPc D T [.ref h0, .int (iz (st)), .int (iz (vv))] (va_P D vwCl [(h0, .inr (2, [.ref h1, .int (iz (ve))])), (h1, .inl (T 0, 115, .inl (zA Z)))])) (vp_Si (fun r : Int32 => ∃ z : Int, r = iz z ∧ (z = 0 ∨ z = 1) ∧ (z = 1 ↔ lk_fits Z st vv))) 0 0 (fun _ => False) := by
  refine Met.ofW (cc := cX2_fitsTheRest) (maxL := 3) (ret := (some .boolean)) (by decide) rfl ?_
  intro p e s m args below meth c s₁ B hml hv
  obtain ⟨rfl, hK, hP⟩ := hv
  have hx := B.exec
  have hb := B.bytes
  have hr := B.returns
  have hts := atoms_spec (ws := wsX2_fitsTheRest) B.pre
  have hown : s.vm.findClass RX2 = some m.cls := findClass_of_methodNamed B.named
  have hlocks := B.notSynchronized
  have w0 := hts (.fieldLink RX2 11 "LakePlant$Lake" "cells" "[I") (List.mem_of_getElem? (i := 1) rfl)
  have w1 : ∀ w ∈ wsX20, w ∈ wsX2_fitsTheRest := by decide +kernel
  have hP : va_P D vwCl [(h0, .inr (2, [.ref h1, .int (iz (ve))])), (h1, .inl (T 0, 115, .inl (zA Z)))] s.heap := hP
  have hl := lv_entry ([.ref h0, .int (iz (st)), .int (iz (vv))]) (n := 3) (Nat.le_of_ble_eq_true rfl)
  rw [lg_entry_eq]
  generalize (lg_sl ([.ref h0, .int (iz (st)), .int (iz (vv))]) ++ List.replicate (3 - (lg_sl ([.ref h0, .int (iz (st)), .int (iz (vv))])).length) Slot.unset).toArray = ls at hl ⊢
  have hl : lv_has ls 3 [(0, .ref h0), (1, .int (iz (st))), (2, .int (iz (vv)))] := hl
  have hs := hV.1
  unfold VS at hs
  refine lv_iload_n hx hb dX2_fitsTheRest_0 rfl (lv_at hl 1 rfl) ?_
  rcases (show st = 0 ∨ st = 1 ∨ st = 2 ∨ st = 3 ∨ st = 4 ∨ st = 5 ∨ st = 6 ∨ (st < 0 ∨ 6 < st) from (by omega)) with hs1 | hs1 | hs1 | hs1 | hs1 | hs1 | hs1 | hs1
  · refine kz_tableIn (v := 0) (tgt := 77) (off := 76) hx hb dX2_fitsTheRest_1 hs1 (by decide) rfl (by decide) ?_
    refine lv_aload_n hx hb dX2_fitsTheRest_77 rfl (lv_at hl 0 rfl) ?_
    refine lv_iload_n hx hb dX2_fitsTheRest_78 rfl (lv_at hl 2 rfl) ?_
    refine kz_neg hx hb dX2_fitsTheRest_79 ?_
    refine lv_aload_n hx hb dX2_fitsTheRest_80 rfl (lv_at hl 0 rfl) ?_
    refine va_get (D := D) (ci := 2) (C := RX2) (T := TX2) (N := 2) hx hb hts w1 hown hK.1 hP 0 rfl rfl 0 (by decide) w0 (fun _ h9 => h9) rfl dX2_fitsTheRest_81 ?_
    refine lv_iconst (v := iz (1)) hx hb dX2_fitsTheRest_84 (by decide) ?_
    refine kz_iald hx hb hK hP (1) rfl (1) (by omega) (by omega) (by omega) dX2_fitsTheRest_85 ?_
    refine kc_i (va_runV (As := [.int (iz (-vv)), .int (iz (Z 1))]) (rest := []) ⟨hx, hb, hml, hown, hts⟩ (c_X2_plansAreFrom l D T h0 h1 Z ve (-vv) (Z 1) hV (by omega) (by omega)) (cwV 2 hts gX2_fitsTheRest_X2_plansAreFrom rfl rfl rfl (by decide +kernel) ⟨Nat.le_of_ble_eq_true rfl, Nat.le_of_ble_eq_true rfl⟩) (kPc.v hK (va_recv hK.1 hP (ci := 2) (q0 := 0) rfl rfl) (kcut hP [0, 1] rfl)) rfl rfl hl.1 rfl (lv_room (Nat.le_of_ble_eq_true rfl)) dX2_fitsTheRest_86 ⟨Nat.zero_le _, Nat.zero_le _⟩) (fun r1 hr1 => ?_)
    obtain ⟨zr1, rfl, hbzr1, hqzr1⟩ := hr1
    exact W.zret hx hb hr (kz_nar (by omega)) (fun t ht _ => ⟨_, rfl, ⟨_, rfl, hbzr1, by rw [hs1, lk_fits_0]; exact hqzr1⟩, ht⟩) (fun _ h => absurd h List.not_mem_nil) dX2_fitsTheRest_89
  · refine kz_tableIn (v := 1) (tgt := 90) (off := 89) hx hb dX2_fitsTheRest_1 hs1 (by decide) rfl (by decide) ?_
    refine lv_aload_n hx hb dX2_fitsTheRest_90 rfl (lv_at hl 0 rfl) ?_
    refine lv_aload_n hx hb dX2_fitsTheRest_91 rfl (lv_at hl 0 rfl) ?_
    refine va_get (D := D) (ci := 2) (C := RX2) (T := TX2) (N := 2) hx hb hts w1 hown hK.1 hP 0 rfl rfl 0 (by decide) w0 (fun _ h9 => h9) rfl dX2_fitsTheRest_92 ?_
    refine lv_iconst (v := iz (0)) hx hb dX2_fitsTheRest_95 (by decide) ?_
    refine kz_iald hx hb hK hP (1) rfl (0) (by omega) (by omega) (by omega) dX2_fitsTheRest_96 ?_
    refine kz_neg hx hb dX2_fitsTheRest_97 ?_
    refine lv_iload_n hx hb dX2_fitsTheRest_98 rfl (lv_at hl 2 rfl) ?_
    refine kc_i (va_runV (As := [.int (iz (-(Z 0))), .int (iz (vv))]) (rest := []) ⟨hx, hb, hml, hown, hts⟩ (c_X2_plansAreFrom l D T h0 h1 Z ve (-(Z 0)) vv hV (by omega) (by omega)) (cwV 2 hts gX2_fitsTheRest_X2_plansAreFrom rfl rfl rfl (by decide +kernel) ⟨Nat.le_of_ble_eq_true rfl, Nat.le_of_ble_eq_true rfl⟩) (kPc.v hK (va_recv hK.1 hP (ci := 2) (q0 := 0) rfl rfl) (kcut hP [0, 1] rfl)) rfl rfl hl.1 rfl (lv_room (Nat.le_of_ble_eq_true rfl)) dX2_fitsTheRest_99 ⟨Nat.zero_le _, Nat.zero_le _⟩) (fun r2 hr2 => ?_)
    obtain ⟨zr2, rfl, hbzr2, hqzr2⟩ := hr2
    exact W.zret hx hb hr (kz_nar (by omega)) (fun t ht _ => ⟨_, rfl, ⟨_, rfl, hbzr2, by rw [hs1, lk_fits_1]; exact hqzr2⟩, ht⟩) (fun _ h => absurd h List.not_mem_nil) dX2_fitsTheRest_102
  · refine kz_tableIn (v := 2) (tgt := 103) (off := 102) hx hb dX2_fitsTheRest_1 hs1 (by decide) rfl (by decide) ?_
    refine lv_iconst (v := iz (1)) hx hb dX2_fitsTheRest_103 (by decide) ?_
    exact W.zret hx hb hr (kz_nar (by omega)) (fun t ht _ => ⟨_, rfl, ⟨_, rfl, by omega, iff_of_true rfl (lk_fits_o (by omega))⟩, ht⟩) (fun _ h => absurd h List.not_mem_nil) dX2_fitsTheRest_104
  · refine kz_tableIn (v := 3) (tgt := 103) (off := 102) hx hb dX2_fitsTheRest_1 hs1 (by decide) rfl (by decide) ?_
    refine lv_iconst (v := iz (1)) hx hb dX2_fitsTheRest_103 (by decide) ?_
    exact W.zret hx hb hr (kz_nar (by omega)) (fun t ht _ => ⟨_, rfl, ⟨_, rfl, by omega, iff_of_true rfl (lk_fits_o (by omega))⟩, ht⟩) (fun _ h => absurd h List.not_mem_nil) dX2_fitsTheRest_104
  · refine kz_tableIn (v := 4) (tgt := 103) (off := 102) hx hb dX2_fitsTheRest_1 hs1 (by decide) rfl (by decide) ?_
    refine lv_iconst (v := iz (1)) hx hb dX2_fitsTheRest_103 (by decide) ?_
    exact W.zret hx hb hr (kz_nar (by omega)) (fun t ht _ => ⟨_, rfl, ⟨_, rfl, by omega, iff_of_true rfl (lk_fits_o (by omega))⟩, ht⟩) (fun _ h => absurd h List.not_mem_nil) dX2_fitsTheRest_104
  · refine kz_tableIn (v := 5) (tgt := 44) (off := 43) hx hb dX2_fitsTheRest_1 hs1 (by decide) rfl (by decide) ?_
    refine lv_iload_n hx hb dX2_fitsTheRest_44 rfl (lv_at hl 2 rfl) ?_
    refine lv_aload_n hx hb dX2_fitsTheRest_45 rfl (lv_at hl 0 rfl) ?_
    refine va_get (D := D) (ci := 2) (C := RX2) (T := TX2) (N := 2) hx hb hts w1 hown hK.1 hP 0 rfl rfl 0 (by decide) w0 (fun _ h9 => h9) rfl dX2_fitsTheRest_46 ?_
    refine lv_bipush (v := iz (6)) hx hb dX2_fitsTheRest_49 (by decide) ?_
    refine kz_iald hx hb hK hP (1) rfl (6) (by omega) (by omega) (by omega) dX2_fitsTheRest_51 ?_
    refine kz_icmp_gt (tgt := 59) hx hb dX2_fitsTheRest_52 (by decide) (by omega) (by omega) (fun c52 => ?_) (fun c52 => ?_)
    · refine lv_iconst (v := iz (0)) hx hb dX2_fitsTheRest_59 (by decide) ?_
      exact W.zret hx hb hr (kz_nar (by omega)) (fun t ht _ => ⟨_, rfl, ⟨_, rfl, by omega, by rw [hs1, lk_fits_5]; omega⟩, ht⟩) (fun _ h => absurd h List.not_mem_nil) dX2_fitsTheRest_60
    · refine lv_iconst (v := iz (1)) hx hb dX2_fitsTheRest_55 (by decide) ?_
      refine lv_goto (tgt := 60) hx hb dX2_fitsTheRest_56 (by decide) ?_
      exact W.zret hx hb hr (kz_nar (by omega)) (fun t ht _ => ⟨_, rfl, ⟨_, rfl, by omega, by rw [hs1, lk_fits_5]; omega⟩, ht⟩) (fun _ h => absurd h List.not_mem_nil) dX2_fitsTheRest_60
  · refine kz_tableIn (v := 6) (tgt := 61) (off := 60) hx hb dX2_fitsTheRest_1 hs1 (by decide) rfl (by decide) ?_
    refine lv_iload_n hx hb dX2_fitsTheRest_61 rfl (lv_at hl 2 rfl) ?_
    refine lv_aload_n hx hb dX2_fitsTheRest_62 rfl (lv_at hl 0 rfl) ?_
    refine va_get (D := D) (ci := 2) (C := RX2) (T := TX2) (N := 2) hx hb hts w1 hown hK.1 hP 0 rfl rfl 0 (by decide) w0 (fun _ h9 => h9) rfl dX2_fitsTheRest_63 ?_
    refine lv_iconst (v := iz (5)) hx hb dX2_fitsTheRest_66 (by decide) ?_
    refine kz_iald hx hb hK hP (1) rfl (5) (by omega) (by omega) (by omega) dX2_fitsTheRest_67 ?_
    refine kz_icmp_lt (tgt := 75) hx hb dX2_fitsTheRest_68 (by decide) (by omega) (by omega) (fun c68 => ?_) (fun c68 => ?_)
    · refine lv_iconst (v := iz (0)) hx hb dX2_fitsTheRest_75 (by decide) ?_
      exact W.zret hx hb hr (kz_nar (by omega)) (fun t ht _ => ⟨_, rfl, ⟨_, rfl, by omega, by rw [hs1, lk_fits_6]; omega⟩, ht⟩) (fun _ h => absurd h List.not_mem_nil) dX2_fitsTheRest_76
    · refine lv_iconst (v := iz (1)) hx hb dX2_fitsTheRest_71 (by decide) ?_
      refine lv_goto (tgt := 76) hx hb dX2_fitsTheRest_72 (by decide) ?_
      exact W.zret hx hb hr (kz_nar (by omega)) (fun t ht _ => ⟨_, rfl, ⟨_, rfl, by omega, by rw [hs1, lk_fits_6]; omega⟩, ht⟩) (fun _ h => absurd h List.not_mem_nil) dX2_fitsTheRest_76
  · refine kz_tableOut (tgt := 103) hx hb dX2_fitsTheRest_1 (by omega) hs1 (by decide) ?_
    refine lv_iconst (v := iz (1)) hx hb dX2_fitsTheRest_103 (by decide) ?_
    exact W.zret hx hb hr (kz_nar (by omega)) (fun t ht _ => ⟨_, rfl, ⟨_, rfl, by omega, iff_of_true rfl (lk_fits_o (by omega))⟩, ht⟩) (fun _ h => absurd h List.not_mem_nil) dX2_fitsTheRest_104
