set_option maxHeartbeats 4000000 in
set_option maxRecDepth 100000 in
theorem c_X5_choosePlan (l : Launch) (D : va_G) (T : Nat → ClassId) (sz : Nat) (so : Nat) (mo : Nat) (ga : Nat) (pla : Nat) (ea : Nat) (ah : Nat) (ia : Nat) (fo : Int) (sv : Int) (h0 : Nat) (h1 : Nat) (Z : Nat → Int) (ve : Int) (Pl : Nat → Int) (Ea : Nat → Int) (Ah : Nat → Int) (Id : Nat → Int) (rw : Nat → Nat) (M : Nat → Nat → Int) (hV : VL Z) (hM : MS Z M 0) : Met l yX5_choosePlan wsX5_choosePlan ({ frames := 3, cells := 0, slots := 0, locals := 71 }) (kPc D T [.ref so] (kW D sz ([(so, .inr (5, [.ref h0, .ref mo, .ref ga, .ref pla, .int (iz (fo)), .int (iz (sv)), .ref ea, .ref ah, .ref ia])), (mo, .inl (T 1, 25, .inr (.inr (.inr (.inr (fun i => some (rw i))))))), (pla, .inl (T 0, 24, .inl (zA Pl))), (ea, .inl (T 0, 31, .inl (zA Ea))), (ah, .inl (T 0, 330, .inl (zA Ah))), (ia, .inl (T 0, 330, .inl (zA Id))), (h0, .inr (2, [.ref h1, .int (iz (ve))])), (h1, .inl (T 0, 115, .inl (zA Z)))] ++ kRows T rw 25 201 M))) (va_Qv (fun (u : Int × (Nat → Int) × (Nat → Int) × (Nat → Int) × (Nat → Int)) => u.1 = (if bv NOP Z 24 (Z 7) = NOP then 0 else 1) ∧ (bv NOP Z 24 (Z 7) ≠ NOP → ∀ h : Nat, h < 24 → u.2.1 h = bp NOP Z h)) (fun (u : Int × (Nat → Int) × (Nat → Int) × (Nat → Int) × (Nat → Int)) (t : State) => va_P D vwCl ([(so, .inr (5, [.ref h0, .ref mo, .ref ga, .ref pla, .int (iz (u.1)), .int (iz (sv)), .ref ea, .ref ah, .ref ia])), (mo, .inl (T 1, 25, .inr (.inr (.inr (.inr (fun i => some (rw i))))))), (pla, .inl (T 0, 24, .inl (zA u.2.1))), (ea, .inl (T 0, 31, .inl (zA u.2.2.1))), (ah, .inl (T 0, 330, .inl (zA u.2.2.2.1))), (ia, .inl (T 0, 330, .inl (zA u.2.2.2.2))), (h0, .inr (2, [.ref h1, .int (iz (ve))])), (h1, .inl (T 0, 115, .inl (zA Z)))] ++ kRows T rw 25 201 M) t.heap) (va_A ([(so, .inr (5, [.ref h0, .ref mo, .ref ga, .ref pla, .int (iz (fo)), .int (iz (sv)), .ref ea, .ref ah, .ref ia])), (mo, .inl (T 1, 25, .inr (.inr (.inr (.inr (fun i => some (rw i))))))), (pla, .inl (T 0, 24, .inl (zA Pl))), (ea, .inl (T 0, 31, .inl (zA Ea))), (ah, .inl (T 0, 330, .inl (zA Ah))), (ia, .inl (T 0, 330, .inl (zA Id))), (h0, .inr (2, [.ref h1, .int (iz (ve))])), (h1, .inl (T 0, 115, .inl (zA Z)))] ++ kRows T rw 25 201 M) sz)) 0 0 (va_A ([(so, .inr (5, [.ref h0, .ref mo, .ref ga, .ref pla, .int (iz (fo)), .int (iz (sv)), .ref ea, .ref ah, .ref ia])), (mo, .inl (T 1, 25, .inr (.inr (.inr (.inr (fun i => some (rw i))))))), (pla, .inl (T 0, 24, .inl (zA Pl))), (ea, .inl (T 0, 31, .inl (zA Ea))), (ah, .inl (T 0, 330, .inl (zA Ah))), (ia, .inl (T 0, 330, .inl (zA Id))), (h0, .inr (2, [.ref h1, .int (iz (ve))])), (h1, .inl (T 0, 115, .inl (zA Z)))] ++ kRows T rw 25 201 M) sz) := by
  refine Met.ofW (cc := cX5_choosePlan) (maxL := 3) (ret := none) (by decide) rfl ?_
  intro p e s m args below meth c s₁ B hml hv
  obtain ⟨rfl, hK, hsz, hP, hD0⟩ := hv
  have hx := B.exec
  have hb := B.bytes
  have hr := B.returns
  have hts := atoms_spec (ws := wsX5_choosePlan) B.pre
  have hown : s.vm.findClass RX5 = some m.cls := findClass_of_methodNamed B.named
  have hlocks := B.notSynchronized
  have w0 := hts (.fieldLink RX5 40 "LakePlant$Search" "lake" "LLakePlant$Lake;") (List.mem_of_getElem? (i := 1) rfl)
  have w1 : ∀ w ∈ wsX50, w ∈ wsX5_choosePlan := by decide +kernel
  have w2 := hts (.initialized RX2) (List.mem_of_getElem? (i := 6) rfl)
  have w3 := hts (.instanceMethod yX2_settingOf) (List.mem_of_getElem? (i := 5) rfl)
  have w4 := hts (.selects RX2 yX2_settingOf yX2_settingOf) (List.mem_of_getElem? (i := 7) rfl)
  have w5 := hts (.constant RX5 53 (-1000000000)) (List.mem_of_getElem? (i := 2) rfl)
  have w6 := hts (.fieldLink RX5 23 "LakePlant$Search" "found" "Z") (List.mem_of_getElem? (i := 3) rfl)
  have w7 := hts (.fieldLink RX5 20 "LakePlant$Search" "plan" "[I") (List.mem_of_getElem? (i := 4) rfl)
  have w8 := hts (.instanceMethod yX2_levelBehind) (List.mem_of_getElem? (i := 75) rfl)
  have w9 := hts (.selects RX2 yX2_levelBehind yX2_levelBehind) (List.mem_of_getElem? (i := 76) rfl)
  subst hsz
  have hD := hD0.self (sz := s.heap.size)
  generalize hAe : va_A ([(so, .inr (5, [.ref h0, .ref mo, .ref ga, .ref pla, .int (iz (fo)), .int (iz (sv)), .ref ea, .ref ah, .ref ia])), (mo, .inl (T 1, 25, .inr (.inr (.inr (.inr (fun i => some (rw i))))))), (pla, .inl (T 0, 24, .inl (zA Pl))), (ea, .inl (T 0, 31, .inl (zA Ea))), (ah, .inl (T 0, 330, .inl (zA Ah))), (ia, .inl (T 0, 330, .inl (zA Id))), (h0, .inr (2, [.ref h1, .int (iz (ve))])), (h1, .inl (T 0, 115, .inl (zA Z)))] ++ kRows T rw 25 201 M) s.heap.size = A at hD ⊢
  have hA : ∀ q : Nat, s.heap.size ≤ q → A q := fun q h => by rw [← hAe]; exact Or.inr h
  have hS : va_S A s.heap s.heap [] := va_S.rf
  have hP : va_P D vwCl ([(so, .inr (5, [.ref h0, .ref mo, .ref ga, .ref pla, .int (iz (fo)), .int (iz (sv)), .ref ea, .ref ah, .ref ia])), (mo, .inl (T 1, 25, .inr (.inr (.inr (.inr (fun i => some (rw i))))))), (pla, .inl (T 0, 24, .inl (zA Pl))), (ea, .inl (T 0, 31, .inl (zA Ea))), (ah, .inl (T 0, 330, .inl (zA Ah))), (ia, .inl (T 0, 330, .inl (zA Id))), (h0, .inr (2, [.ref h1, .int (iz (ve))])), (h1, .inl (T 0, 115, .inl (zA Z)))] ++ kRows T rw 25 201 M) s.heap := hP
  have hl := lv_entry ([.ref so]) (n := 3) (Nat.le_of_ble_eq_true rfl)
  rw [lg_entry_eq]
  generalize (lg_sl ([.ref so]) ++ List.replicate (3 - (lg_sl ([.ref so])).length) Slot.unset).toArray = ls at hl ⊢
  have hl : lv_has ls 3 [(0, .ref so)] := hl
  have hs := hV.1
  unfold VS at hs
  have eN : NOP = -1000000000 := rfl
  have hbr := bv_rng hV NOP_le 24 (Nat.le_refl _) (Z 7) (by omega)
  refine lv_aload_n hx hb dX5_choosePlan_0 rfl (lv_at hl 0 rfl) ?_
  refine va_get (D := D) (ci := 5) (C := RX5) (T := TX5) (N := 9) hx hb hts w1 hown hK.1 hP 0 rfl rfl 0 (by decide) w0 (fun _ h9 => h9) rfl dX5_choosePlan_1 ?_
  refine lv_bipush (v := iz (7)) hx hb dX5_choosePlan_4 (by decide) ?_
  refine kc_i (va_runVN (As := [.int (iz (7))]) (rest := []) ⟨hx, hb, hml, hown, hts⟩ (c_X2_settingOf l D T h0 h1 Z ve 7 (by omega)) ⟨va_cnB 1 hts gX5_choosePlan_X2_settingOf_n49 rfl rfl rfl (kn_RX5_49 hK) w2 (by decide +kernel) ⟨Nat.le_of_ble_eq_true rfl, Nat.le_of_ble_eq_true rfl⟩, w3, w4⟩ (kPc.v hK (va_recv hK.1 hP (ci := 2) (q0 := 6) rfl rfl) (kcut hP [6, 7] rfl)) rfl rfl hl.1 rfl (lv_room (Nat.le_of_ble_eq_true rfl)) dX5_choosePlan_6 ⟨Nat.zero_le _, Nat.zero_le _⟩) (fun r1 hr1 => ?_)
  subst hr1
  refine lv_istore_n (lv' := [(1, .int (iz (Z 7))), (0, .ref so)]) hx hb dX5_choosePlan_9 rfl hl (by decide) rfl (fun ls hl => ?_)
  refine lv_aload_n hx hb dX5_choosePlan_10 rfl (lv_at hl 1 rfl) ?_
  refine kz_join (pcj := 27) (P := fun fo1 => fo1 = (if bv NOP Z 24 (Z 7) = NOP then 0 else 1)) (rest := [.ref so]) (ls := ls) (fun J27 => ?_) (fun fo1 efo1 => ?_)
  · refine lv_aload_n hx hb dX5_choosePlan_11 rfl (lv_at hl 1 rfl) ?_
    refine lv_iconst (v := iz (0)) hx hb dX5_choosePlan_12 (by decide) ?_
    refine kz_top (y := ((0 : Nat) : Int)) rfl ?_
    refine lv_iload_n hx hb dX5_choosePlan_13 rfl (lv_at hl 0 rfl) ?_
    refine kc_i (va_runV (As := [.int (iz (((0 : Nat) : Int))), .int (iz (Z 7))]) (rest := [.ref so]) ⟨hx, hb, hml, hown, hts⟩ (c_X5_mostFrom l D T so mo ga pla ea ah ia fo sv h0 rw M 0 (by omega) (Z 7) (by omega)) (cwV 2 hts gX5_choosePlan_X5_mostFrom rfl rfl rfl (by decide +kernel) ⟨Nat.le_of_ble_eq_true rfl, Nat.le_of_ble_eq_true rfl⟩) (kPc.v hK (va_recv hK.1 hP (ci := 5) (q0 := 0) rfl rfl) (hP.part [0, 1] rfl)) rfl rfl hl.1 rfl (lv_room (Nat.le_of_ble_eq_true rfl)) dX5_choosePlan_14 ⟨Nat.zero_le _, Nat.zero_le _⟩) (fun r2 hr2 => ?_)
    subst hr2
    refine kz_top (y := bv NOP Z 24 (Z 7)) (by rw [hM 0 (by omega) (by omega) _ (by omega) (Or.inl rfl), show (((Z 7).toNat : Nat) : Int) = Z 7 by omega]) ?_
    refine lv_ldc (v := (-1000000000 : Int32)) hx hb hown w5 dX5_choosePlan_17 ?_
    refine W.eq (g2 := F0 m 19 ls (.int (iz (-1000000000)) :: [.int (iz (bv NOP Z 24 (Z 7))), .ref so])) (by rw [show iz (-1000000000) = (-1000000000 : Int32) from by decide]) ?_
    refine kz_icmp_eq (tgt := 26) hx hb dX5_choosePlan_19 (by decide) (by omega) (by omega) (fun c19 => ?_) (fun c19 => ?_)
    · refine lv_iconst (v := iz (0)) hx hb dX5_choosePlan_26 (by decide) ?_
      exact J27 (0) (by split <;> omega)
    · refine lv_iconst (v := iz (1)) hx hb dX5_choosePlan_22 (by decide) ?_
      refine lv_goto (tgt := 27) hx hb dX5_choosePlan_23 (by decide) ?_
      exact J27 (1) (by split <;> omega)
  · refine va_put (D := D) (ci := 5) (v := .int (iz (fo1))) (ty := .boolean) (C := RX5) (T := TX5) (N := 9) hx hb hts w1 tyX5 tyX5_ok nmX5 hown hK.1 hP hD hS 0 rfl rfl 4 (by decide) w6 (fun _ h9 => h9) rfl (by decide +kernel) (kz_nar (show fo1 = 0 ∨ fo1 = 1 by rw [efo1]; split <;> omega)) (by rcases (show fo1 = 0 ∨ fo1 = 1 by rw [efo1]; split <;> omega) with h | h <;> rw [h] <;> rfl) (Nat.le_of_ble_eq_true rfl) dX5_choosePlan_27 (fun H locs hP hD hS => ?_)
    have hP : va_P D vwCl ([(so, .inr (5, [.ref h0, .ref mo, .ref ga, .ref pla, .int (iz (fo1)), .int (iz (sv)), .ref ea, .ref ah, .ref ia])), (mo, .inl (T 1, 25, .inr (.inr (.inr (.inr (fun i => some (rw i))))))), (pla, .inl (T 0, 24, .inl (zA Pl))), (ea, .inl (T 0, 31, .inl (zA Ea))), (ah, .inl (T 0, 330, .inl (zA Ah))), (ia, .inl (T 0, 330, .inl (zA Id))), (h0, .inr (2, [.ref h1, .int (iz (ve))])), (h1, .inl (T 0, 115, .inl (zA Z)))] ++ kRows T rw 25 201 M) H := hP
    have hD : va_D A ([(so, .inr (5, [.ref h0, .ref mo, .ref ga, .ref pla, .int (iz (fo1)), .int (iz (sv)), .ref ea, .ref ah, .ref ia])), (mo, .inl (T 1, 25, .inr (.inr (.inr (.inr (fun i => some (rw i))))))), (pla, .inl (T 0, 24, .inl (zA Pl))), (ea, .inl (T 0, 31, .inl (zA Ea))), (ah, .inl (T 0, 330, .inl (zA Ah))), (ia, .inl (T 0, 330, .inl (zA Id))), (h0, .inr (2, [.ref h1, .int (iz (ve))])), (h1, .inl (T 0, 115, .inl (zA Z)))] ++ kRows T rw 25 201 M) := hD
    refine lv_aload_n hx hb dX5_choosePlan_30 rfl (lv_at hl 1 rfl) ?_
    refine va_get (D := D) (ci := 5) (C := RX5) (T := TX5) (N := 9) hx hb hts w1 hown hK.1 hP 0 rfl rfl 4 (by decide) w6 (fun _ h9 => h9) rfl dX5_choosePlan_31 ?_
    refine kz_if_ne (tgt := 38) hx hb dX5_choosePlan_34 (by decide) (by omega) (fun c34 => ?_) (fun c34 => ?_)
    · have hne : bv NOP Z 24 (Z 7) ≠ NOP := fun q => by rw [if_pos q] at efo1; omega
      refine lv_iconst (v := iz (0)) hx hb dX5_choosePlan_38 (by decide) ?_
      refine lv_istore_n (lv' := [(2, .int (iz (0))), (1, .int (iz (Z 7))), (0, .ref so)]) hx hb dX5_choosePlan_39 rfl hl (by decide) rfl (fun ls hl => ?_)
      have hl : lv_has ls 3 [(2, .int (iz (0))), (1, .int (iz (bl NOP Z 0))), (0, .ref so)] := by rw [← (show (Z 7 : Int) = bl NOP Z 0 from rfl)]; exact hl
      have hl : lv_has ls 3 [(2, .int (iz (((0 : Nat) : Int)))), (1, .int (iz (bl NOP Z 0))), (0, .ref so)] := by rw [← (show (0 : Int) = ((0 : Nat) : Int) from (by first | rfl | omega))]; exact hl
      have hZ : (Pl : Nat → Int) = zmix 0 (bp NOP Z) Pl := (zmix_0 _ _)
      have hP : va_P D vwCl ([(so, .inr (5, [.ref h0, .ref mo, .ref ga, .ref pla, .int (iz (fo1)), .int (iz (sv)), .ref ea, .ref ah, .ref ia])), (mo, .inl (T 1, 25, .inr (.inr (.inr (.inr (fun i => some (rw i))))))), (pla, .inl (T 0, 24, .inl (zA (zmix 0 (bp NOP Z) Pl)))), (ea, .inl (T 0, 31, .inl (zA Ea))), (ah, .inl (T 0, 330, .inl (zA Ah))), (ia, .inl (T 0, 330, .inl (zA Id))), (h0, .inr (2, [.ref h1, .int (iz (ve))])), (h1, .inl (T 0, 115, .inl (zA Z)))] ++ kRows T rw 25 201 M) H := by rw [← hZ]; exact hP
      have hD : va_D A ([(so, .inr (5, [.ref h0, .ref mo, .ref ga, .ref pla, .int (iz (fo1)), .int (iz (sv)), .ref ea, .ref ah, .ref ia])), (mo, .inl (T 1, 25, .inr (.inr (.inr (.inr (fun i => some (rw i))))))), (pla, .inl (T 0, 24, .inl (zA (zmix 0 (bp NOP Z) Pl)))), (ea, .inl (T 0, 31, .inl (zA Ea))), (ah, .inl (T 0, 330, .inl (zA Ah))), (ia, .inl (T 0, 330, .inl (zA Id))), (h0, .inr (2, [.ref h1, .int (iz (ve))])), (h1, .inl (T 0, 115, .inl (zA Z)))] ++ kRows T rw 25 201 M) := by rw [← hZ]; exact hD
      refine kz_loopW4 (pc := 40) (I := fun (n : Nat) (Eb : Nat → Int) (Ab : Nat → Int) (Ib : Nat → Int) (H : Heap) (locs : List Loc) (ls : Array Slot) => (n ≤ 24) ∧ va_P D vwCl ([(so, .inr (5, [.ref h0, .ref mo, .ref ga, .ref pla, .int (iz (fo1)), .int (iz (sv)), .ref ea, .ref ah, .ref ia])), (mo, .inl (T 1, 25, .inr (.inr (.inr (.inr (fun i => some (rw i))))))), (pla, .inl (T 0, 24, .inl (zA (zmix n (bp NOP Z) Pl)))), (ea, .inl (T 0, 31, .inl (zA Eb))), (ah, .inl (T 0, 330, .inl (zA Ab))), (ia, .inl (T 0, 330, .inl (zA Ib))), (h0, .inr (2, [.ref h1, .int (iz (ve))])), (h1, .inl (T 0, 115, .inl (zA Z)))] ++ kRows T rw 25 201 M) H ∧ va_D A ([(so, .inr (5, [.ref h0, .ref mo, .ref ga, .ref pla, .int (iz (fo1)), .int (iz (sv)), .ref ea, .ref ah, .ref ia])), (mo, .inl (T 1, 25, .inr (.inr (.inr (.inr (fun i => some (rw i))))))), (pla, .inl (T 0, 24, .inl (zA (zmix n (bp NOP Z) Pl)))), (ea, .inl (T 0, 31, .inl (zA Eb))), (ah, .inl (T 0, 330, .inl (zA Ab))), (ia, .inl (T 0, 330, .inl (zA Ib))), (h0, .inr (2, [.ref h1, .int (iz (ve))])), (h1, .inl (T 0, 115, .inl (zA Z)))] ++ kRows T rw 25 201 M) ∧ va_S A s.heap H locs ∧ lv_has ls 3 [(0, .ref so), (1, .int (iz (bl NOP Z n))), (2, .int (iz (((n : Nat) : Int))))]) (μ := fun (n : Nat) (Eb : Nat → Int) (Ab : Nat → Int) (Ib : Nat → Int) => 24 - n) 0 Ea Ah Id ⟨(by omega), hP, hD, hS, lv_sub hl [2, 1, 0] rfl⟩ ?_
      rintro n Eb Ab Ib H locs ls ⟨hn, hP, hD, hS, hl⟩ ih40
      obtain ⟨hb1, hb2, hb3⟩ := bp_ok hV NOP_le hne n (by omega)
      refine lv_iload_n hx hb dX5_choosePlan_40 rfl (lv_at hl 2 rfl) ?_
      refine lv_bipush (v := iz (24)) hx hb dX5_choosePlan_41 (by decide) ?_
      refine kz_icmp_ge (tgt := 85) hx hb dX5_choosePlan_43 (by decide) (by omega) (by omega) (fun c43 => ?_) (fun c43 => ?_)
      · have hnn : n = 24 := by omega
        have hZ : (zmix n (bp NOP Z) Pl : Nat → Int) = (zmix 24 (bp NOP Z) Pl) := (by rw [hnn])
        have hP : va_P D vwCl ([(so, .inr (5, [.ref h0, .ref mo, .ref ga, .ref pla, .int (iz (fo1)), .int (iz (sv)), .ref ea, .ref ah, .ref ia])), (mo, .inl (T 1, 25, .inr (.inr (.inr (.inr (fun i => some (rw i))))))), (pla, .inl (T 0, 24, .inl (zA (zmix 24 (bp NOP Z) Pl)))), (ea, .inl (T 0, 31, .inl (zA Eb))), (ah, .inl (T 0, 330, .inl (zA Ab))), (ia, .inl (T 0, 330, .inl (zA Ib))), (h0, .inr (2, [.ref h1, .int (iz (ve))])), (h1, .inl (T 0, 115, .inl (zA Z)))] ++ kRows T rw 25 201 M) H := by rw [← hZ]; exact hP
        have hD : va_D A ([(so, .inr (5, [.ref h0, .ref mo, .ref ga, .ref pla, .int (iz (fo1)), .int (iz (sv)), .ref ea, .ref ah, .ref ia])), (mo, .inl (T 1, 25, .inr (.inr (.inr (.inr (fun i => some (rw i))))))), (pla, .inl (T 0, 24, .inl (zA (zmix 24 (bp NOP Z) Pl)))), (ea, .inl (T 0, 31, .inl (zA Eb))), (ah, .inl (T 0, 330, .inl (zA Ab))), (ia, .inl (T 0, 330, .inl (zA Ib))), (h0, .inr (2, [.ref h1, .int (iz (ve))])), (h1, .inl (T 0, 115, .inl (zA Z)))] ++ kRows T rw 25 201 M) := by rw [← hZ]; exact hD
        exact W.vret hx hb hr (fun t ht hW => ⟨⟨(fo1, zmix 24 (bp NOP Z) Pl, Eb, Ab, Ib), rfl, ⟨efo1, fun _ h hh => zmix_in (by omega)⟩, by show va_P _ _ _ t.heap; rw [ht]; exact hP⟩, hS.F ht⟩) hS.2.2 dX5_choosePlan_85
      · obtain ⟨hc1, hc2⟩ := hb3 (by omega)
        refine lv_aload_n hx hb dX5_choosePlan_46 rfl (lv_at hl 0 rfl) ?_
        refine lv_iload_n hx hb dX5_choosePlan_47 rfl (lv_at hl 2 rfl) ?_
        refine kc_wvP (va_runV (As := [.int (iz (((n : Nat) : Int)))]) (rest := []) ⟨hx, hb, hml, hown, hts⟩ (c_X5_lookAt l D T H.size so mo ga pla ea ah ia fo1 sv h0 h1 Z ve Eb Ab Ib rw M n (by omega) hV (fun r q => hM.rng hV (Nat.zero_le _) (by omega) (by omega) (Or.inr (Or.inr q)))) (cwV 1 hts gX5_choosePlan_X5_lookAt rfl rfl rfl (by decide +kernel) ⟨Nat.le_of_ble_eq_true rfl, Nat.le_of_ble_eq_true rfl⟩) (kPc.v hK (va_recv hK.1 hP (ci := 5) (q0 := 0) rfl rfl) (kW.cutP hP hD [0, 1, 3, 4, 5, 6, 7] rfl (by rfl))) rfl rfl hl.1 rfl (lv_room (Nat.le_of_ble_eq_true rfl)) dX5_choosePlan_48 ⟨Nat.zero_le _, Nat.zero_le _⟩) hP hD hS hA [0, 1, 3, 4, 5, 6, 7] rfl (fun _ => rfl) (fun _ => kRows_fst) (fun u H locs hr3 hP hD hS => ?_)
        have hP : va_P D vwCl ([(so, .inr (5, [.ref h0, .ref mo, .ref ga, .ref pla, .int (iz (fo1)), .int (iz (sv)), .ref ea, .ref ah, .ref ia])), (mo, .inl (T 1, 25, .inr (.inr (.inr (.inr (fun i => some (rw i))))))), (pla, .inl (T 0, 24, .inl (zA (zmix n (bp NOP Z) Pl)))), (ea, .inl (T 0, 31, .inl (zA (zmix 31 (eaF Z n) Eb)))), (ah, .inl (T 0, 330, .inl (zA (zmix 330 (ahF Z M n) Ab)))), (ia, .inl (T 0, 330, .inl (zA (zmix 330 (idF Z (ahF Z M n) (eaF Z n)) Ib)))), (h0, .inr (2, [.ref h1, .int (iz (ve))])), (h1, .inl (T 0, 115, .inl (zA Z)))] ++ kRows T rw 25 201 M) H := hP
        have hD : va_D A ([(so, .inr (5, [.ref h0, .ref mo, .ref ga, .ref pla, .int (iz (fo1)), .int (iz (sv)), .ref ea, .ref ah, .ref ia])), (mo, .inl (T 1, 25, .inr (.inr (.inr (.inr (fun i => some (rw i))))))), (pla, .inl (T 0, 24, .inl (zA (zmix n (bp NOP Z) Pl)))), (ea, .inl (T 0, 31, .inl (zA (zmix 31 (eaF Z n) Eb)))), (ah, .inl (T 0, 330, .inl (zA (zmix 330 (ahF Z M n) Ab)))), (ia, .inl (T 0, 330, .inl (zA (zmix 330 (idF Z (ahF Z M n) (eaF Z n)) Ib)))), (h0, .inr (2, [.ref h1, .int (iz (ve))])), (h1, .inl (T 0, 115, .inl (zA Z)))] ++ kRows T rw 25 201 M) := hD
        refine lv_aload_n hx hb dX5_choosePlan_51 rfl (lv_at hl 0 rfl) ?_
        refine va_get (D := D) (ci := 5) (C := RX5) (T := TX5) (N := 9) hx hb hts w1 hown hK.1 hP 0 rfl rfl 3 (by decide) w7 (fun _ h9 => h9) rfl dX5_choosePlan_52 ?_
        refine lv_iload_n hx hb dX5_choosePlan_55 rfl (lv_at hl 2 rfl) ?_
        refine lv_aload_n hx hb dX5_choosePlan_56 rfl (lv_at hl 0 rfl) ?_
        refine lv_iload_n hx hb dX5_choosePlan_57 rfl (lv_at hl 2 rfl) ?_
        refine lv_iload_n hx hb dX5_choosePlan_58 rfl (lv_at hl 1 rfl) ?_
        refine kc_i (va_runV (As := [.int (iz (((n : Nat) : Int))), .int (iz (bl NOP Z n))]) (rest := [.int (iz (((n : Nat) : Int))), .ref pla]) ⟨hx, hb, hml, hown, hts⟩ (c_X5_leastWithTheMost l D T so mo ga pla ea ah ia fo1 sv h0 h1 Z ve (zmix 31 (eaF Z n) Eb) (zmix 330 (ahF Z M n) Ab) rw M n (by omega) (bl NOP Z n) hV (by omega) (zmix_rng (eaF_rng hV (by omega)) (Nat.le_refl 31)) (zmix_rng (fun r _ => ahF_rng hV (fun r q => hM.rng hV (Nat.zero_le _) (by omega) (by omega) (Or.inr (Or.inr q))) r) (Nat.le_refl 330)) (hM.rng hV (Nat.zero_le _) (by omega) (by omega) (by omega))) (cwV 2 hts gX5_choosePlan_X5_leastWithTheMost rfl rfl rfl (by decide +kernel) ⟨Nat.le_of_ble_eq_true rfl, Nat.le_of_ble_eq_true rfl⟩) (kPc.v hK (va_recv hK.1 hP (ci := 5) (q0 := 0) rfl rfl) (hP.part [0, 1, 3, 4, 6, 7] rfl)) rfl rfl hl.1 rfl (lv_room (Nat.le_of_ble_eq_true rfl)) dX5_choosePlan_59 ⟨Nat.zero_le _, Nat.zero_le _⟩) (fun r4 hr4 => ?_)
        subst hr4
        refine kz_top (y := bp NOP Z n) (by rw [hM n (Nat.zero_le _) (by omega) _ (by omega) (by omega), show (((bl NOP Z n).toNat : Nat) : Int) = bl NOP Z n by omega]; exact lwF_eq hV (M := M) (fun h h1 h2 => hM h (Nat.zero_le _) h2) (by omega) (fun r hr => zmix_in hr) (fun r hr => zmix_in hr) (by omega) hb2 _ _ (by omega) (by omega)) ?_
        refine kz_iast hx hb hK hP hD hS (2) rfl (n) (by omega) (by omega) (by omega) dX5_choosePlan_62 (fun H locs hP hD hS => ?_)
        have hP : va_P D vwCl ([(so, .inr (5, [.ref h0, .ref mo, .ref ga, .ref pla, .int (iz (fo1)), .int (iz (sv)), .ref ea, .ref ah, .ref ia])), (mo, .inl (T 1, 25, .inr (.inr (.inr (.inr (fun i => some (rw i))))))), (pla, .inl (T 0, 24, .inl (zA (zup (zmix n (bp NOP Z) Pl) n (bp NOP Z n))))), (ea, .inl (T 0, 31, .inl (zA (zmix 31 (eaF Z n) Eb)))), (ah, .inl (T 0, 330, .inl (zA (zmix 330 (ahF Z M n) Ab)))), (ia, .inl (T 0, 330, .inl (zA (zmix 330 (idF Z (ahF Z M n) (eaF Z n)) Ib)))), (h0, .inr (2, [.ref h1, .int (iz (ve))])), (h1, .inl (T 0, 115, .inl (zA Z)))] ++ kRows T rw 25 201 M) H := hP
        have hD : va_D A ([(so, .inr (5, [.ref h0, .ref mo, .ref ga, .ref pla, .int (iz (fo1)), .int (iz (sv)), .ref ea, .ref ah, .ref ia])), (mo, .inl (T 1, 25, .inr (.inr (.inr (.inr (fun i => some (rw i))))))), (pla, .inl (T 0, 24, .inl (zA (zup (zmix n (bp NOP Z) Pl) n (bp NOP Z n))))), (ea, .inl (T 0, 31, .inl (zA (zmix 31 (eaF Z n) Eb)))), (ah, .inl (T 0, 330, .inl (zA (zmix 330 (ahF Z M n) Ab)))), (ia, .inl (T 0, 330, .inl (zA (zmix 330 (idF Z (ahF Z M n) (eaF Z n)) Ib)))), (h0, .inr (2, [.ref h1, .int (iz (ve))])), (h1, .inl (T 0, 115, .inl (zA Z)))] ++ kRows T rw 25 201 M) := hD
        have hZ : (zup (zmix n (bp NOP Z) Pl) n (bp NOP Z n) : Nat → Int) = zmix (n + 1) (bp NOP Z) Pl := (zmix_s rfl)
        have hP : va_P D vwCl ([(so, .inr (5, [.ref h0, .ref mo, .ref ga, .ref pla, .int (iz (fo1)), .int (iz (sv)), .ref ea, .ref ah, .ref ia])), (mo, .inl (T 1, 25, .inr (.inr (.inr (.inr (fun i => some (rw i))))))), (pla, .inl (T 0, 24, .inl (zA (zmix (n + 1) (bp NOP Z) Pl)))), (ea, .inl (T 0, 31, .inl (zA (zmix 31 (eaF Z n) Eb)))), (ah, .inl (T 0, 330, .inl (zA (zmix 330 (ahF Z M n) Ab)))), (ia, .inl (T 0, 330, .inl (zA (zmix 330 (idF Z (ahF Z M n) (eaF Z n)) Ib)))), (h0, .inr (2, [.ref h1, .int (iz (ve))])), (h1, .inl (T 0, 115, .inl (zA Z)))] ++ kRows T rw 25 201 M) H := by rw [← hZ]; exact hP
        have hD : va_D A ([(so, .inr (5, [.ref h0, .ref mo, .ref ga, .ref pla, .int (iz (fo1)), .int (iz (sv)), .ref ea, .ref ah, .ref ia])), (mo, .inl (T 1, 25, .inr (.inr (.inr (.inr (fun i => some (rw i))))))), (pla, .inl (T 0, 24, .inl (zA (zmix (n + 1) (bp NOP Z) Pl)))), (ea, .inl (T 0, 31, .inl (zA (zmix 31 (eaF Z n) Eb)))), (ah, .inl (T 0, 330, .inl (zA (zmix 330 (ahF Z M n) Ab)))), (ia, .inl (T 0, 330, .inl (zA (zmix 330 (idF Z (ahF Z M n) (eaF Z n)) Ib)))), (h0, .inr (2, [.ref h1, .int (iz (ve))])), (h1, .inl (T 0, 115, .inl (zA Z)))] ++ kRows T rw 25 201 M) := by rw [← hZ]; exact hD
        refine lv_aload_n hx hb dX5_choosePlan_63 rfl (lv_at hl 0 rfl) ?_
        refine va_get (D := D) (ci := 5) (C := RX5) (T := TX5) (N := 9) hx hb hts w1 hown hK.1 hP 0 rfl rfl 0 (by decide) w0 (fun _ h9 => h9) rfl dX5_choosePlan_64 ?_
        refine lv_iload_n hx hb dX5_choosePlan_67 rfl (lv_at hl 2 rfl) ?_
        refine lv_iload_n hx hb dX5_choosePlan_68 rfl (lv_at hl 1 rfl) ?_
        refine lv_aload_n hx hb dX5_choosePlan_69 rfl (lv_at hl 0 rfl) ?_
        refine va_get (D := D) (ci := 5) (C := RX5) (T := TX5) (N := 9) hx hb hts w1 hown hK.1 hP 0 rfl rfl 3 (by decide) w7 (fun _ h9 => h9) rfl dX5_choosePlan_70 ?_
        refine lv_iload_n hx hb dX5_choosePlan_73 rfl (lv_at hl 2 rfl) ?_
        refine kz_iald hx hb hK hP (2) rfl (n) (by omega) (by omega) (by omega) dX5_choosePlan_74 ?_
        refine kz_top (y := bp NOP Z n) (zmix_in (Nat.lt_succ_self n)) ?_
        refine kc_i (va_runVN (As := [.int (iz (((n : Nat) : Int))), .int (iz (bl NOP Z n)), .int (iz (bp NOP Z n))]) (rest := []) ⟨hx, hb, hml, hown, hts⟩ (c_X2_levelBehind l D T h0 h1 Z ve n (by omega) (bl NOP Z n) (bp NOP Z n) hV (by omega) (by omega)) ⟨va_cnB 3 hts gX5_choosePlan_X2_levelBehind_n110 rfl rfl rfl (kn_RX5_110 hK) w2 (by decide +kernel) ⟨Nat.le_of_ble_eq_true rfl, Nat.le_of_ble_eq_true rfl⟩, w8, w9⟩ (kPc.v hK (va_recv hK.1 hP (ci := 2) (q0 := 6) rfl rfl) (kcut hP [6, 7] rfl)) rfl rfl hl.1 rfl (lv_room (Nat.le_of_ble_eq_true rfl)) dX5_choosePlan_75 ⟨Nat.zero_le _, Nat.zero_le _⟩) (fun r5 hr5 => ?_)
        subst hr5
        refine lv_istore_n (lv' := [(1, .int (iz (lk_behind Z n (bl NOP Z n) (bp NOP Z n)))), (0, .ref so), (2, .int (iz (((n : Nat) : Int))))]) hx hb dX5_choosePlan_78 rfl hl (by decide) rfl (fun ls hl => ?_)
        refine kz_iinc (b := ((n + 1 : Nat) : Int)) (lv' := [(2, .int (iz (((n + 1 : Nat) : Int)))), (1, .int (iz (lk_behind Z n (bl NOP Z n) (bp NOP Z n)))), (0, .ref so)]) hx hb dX5_choosePlan_79 hl (k := 2) rfl (by omega) (by decide) rfl (fun ls hl => ?_)
        refine lv_goto (tgt := 40) hx hb dX5_choosePlan_82 (by decide) ?_
        have hl : lv_has ls 3 [(2, .int (iz (((n + 1 : Nat) : Int)))), (1, .int (iz (bl NOP Z (n + 1)))), (0, .ref so)] := by rw [← (show (lk_behind Z n (bl NOP Z n) (bp NOP Z n) : Int) = bl NOP Z (n + 1) from (bl_s _ _ _).symm)]; exact hl
        exact ih40 (n + 1) (zmix 31 (eaF Z n) Eb) (zmix 330 (ahF Z M n) Ab) (zmix 330 (idF Z (ahF Z M n) (eaF Z n)) Ib) _ _ _ ⟨(by omega), hP, hD, hS, lv_sub hl [2, 1, 0] rfl⟩ (by omega)
    · exact W.vret hx hb hr (fun t ht hW => ⟨⟨(fo1, Pl, Ea, Ah, Id), rfl, ⟨efo1, fun q => absurd efo1 (by rw [if_neg q]; omega)⟩, by show va_P _ _ _ t.heap; rw [ht]; exact hP⟩, hS.F ht⟩) hS.2.2 dX5_choosePlan_37
