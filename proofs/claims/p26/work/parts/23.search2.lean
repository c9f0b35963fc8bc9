set_option maxHeartbeats 4000000 in
set_option maxRecDepth 100000 in
theorem c_X5_lookAt (l : Launch) (D : va_G) (T : Nat → ClassId) (sz : Nat) (so : Nat) (mo : Nat) (ga : Nat) (pla : Nat) (ea : Nat) (ah : Nat) (ia : Nat) (fo : Int) (sv : Int) (h0 : Nat) (h1 : Nat) (Z : Nat → Int) (ve : Int) (Ea : Nat → Int) (Ah : Nat → Int) (Id : Nat → Int) (rw : Nat → Nat) (M : Nat → Nat → Int) (k : Nat) (hk : k < 24) (hV : VL Z) (hM : ∀ r : Nat, (r : Int) ≤ Z 6 → -1000000000 ≤ M (k + 1) r ∧ M (k + 1) r ≤ 1000000000) : Met l yX5_lookAt wsX5_lookAt ({ frames := 2, cells := 0, slots := 0, locals := 48 }) (kPc D T [.ref so, .int (iz (((k : Nat) : Int)))] (kW D sz ([(so, .inr (5, [.ref h0, .ref mo, .ref ga, .ref pla, .int (iz (fo)), .int (iz (sv)), .ref ea, .ref ah, .ref ia])), (mo, .inl (T 1, 25, .inr (.inr (.inr (.inr (fun i => some (rw i))))))), (ea, .inl (T 0, 31, .inl (zA Ea))), (ah, .inl (T 0, 330, .inl (zA Ah))), (ia, .inl (T 0, 330, .inl (zA Id))), (h0, .inr (2, [.ref h1, .int (iz (ve))])), (h1, .inl (T 0, 115, .inl (zA Z)))] ++ kRows T rw 25 201 M))) (va_Qv (fun (u : Unit) => True) (fun (u : Unit) (t : State) => va_P D vwCl ([(so, .inr (5, [.ref h0, .ref mo, .ref ga, .ref pla, .int (iz (fo)), .int (iz (sv)), .ref ea, .ref ah, .ref ia])), (mo, .inl (T 1, 25, .inr (.inr (.inr (.inr (fun i => some (rw i))))))), (ea, .inl (T 0, 31, .inl (zA (zmix 31 (eaF Z k) Ea)))), (ah, .inl (T 0, 330, .inl (zA (zmix 330 (ahF Z M k) Ah)))), (ia, .inl (T 0, 330, .inl (zA (zmix 330 (idF Z (ahF Z M k) (eaF Z k)) Id)))), (h0, .inr (2, [.ref h1, .int (iz (ve))])), (h1, .inl (T 0, 115, .inl (zA Z)))] ++ kRows T rw 25 201 M) t.heap) (va_A ([(so, .inr (5, [.ref h0, .ref mo, .ref ga, .ref pla, .int (iz (fo)), .int (iz (sv)), .ref ea, .ref ah, .ref ia])), (mo, .inl (T 1, 25, .inr (.inr (.inr (.inr (fun i => some (rw i))))))), (ea, .inl (T 0, 31, .inl (zA Ea))), (ah, .inl (T 0, 330, .inl (zA Ah))), (ia, .inl (T 0, 330, .inl (zA Id))), (h0, .inr (2, [.ref h1, .int (iz (ve))])), (h1, .inl (T 0, 115, .inl (zA Z)))] ++ kRows T rw 25 201 M) sz)) 0 0 (va_A ([(so, .inr (5, [.ref h0, .ref mo, .ref ga, .ref pla, .int (iz (fo)), .int (iz (sv)), .ref ea, .ref ah, .ref ia])), (mo, .inl (T 1, 25, .inr (.inr (.inr (.inr (fun i => some (rw i))))))), (ea, .inl (T 0, 31, .inl (zA Ea))), (ah, .inl (T 0, 330, .inl (zA Ah))), (ia, .inl (T 0, 330, .inl (zA Id))), (h0, .inr (2, [.ref h1, .int (iz (ve))])), (h1, .inl (T 0, 115, .inl (zA Z)))] ++ kRows T rw 25 201 M) sz) := by
  refine Met.ofW (cc := cX5_lookAt) (maxL := 4) (ret := none) (by decide) rfl ?_
  intro p e s m args below meth c s₁ B hml hv
  obtain ⟨rfl, hK, hsz, hP, hD0⟩ := hv
  have hx := B.exec
  have hb := B.bytes
  have hr := B.returns
  have hts := atoms_spec (ws := wsX5_lookAt) B.pre
  have hown : s.vm.findClass RX5 = some m.cls := findClass_of_methodNamed B.named
  have hlocks := B.notSynchronized
  have w0 := hts (.fieldLink RX5 40 "LakePlant$Search" "lake" "LLakePlant$Lake;") (List.mem_of_getElem? (i := 2) rfl)
  have w1 : ∀ w ∈ wsX50, w ∈ wsX5_lookAt := by decide +kernel
  have w2 := hts (.initialized RX2) (List.mem_of_getElem? (i := 6) rfl)
  have w3 := hts (.instanceMethod yX2_settingOf) (List.mem_of_getElem? (i := 36) rfl)
  have w4 := hts (.selects RX2 yX2_settingOf yX2_settingOf) (List.mem_of_getElem? (i := 37) rfl)
  have w5 := hts (.fieldLink RX5 37 "LakePlant$Search" "idle" "[I") (List.mem_of_getElem? (i := 4) rfl)
  have w6 := hts (.instanceMethod yX2_letDownOf) (List.mem_of_getElem? (i := 39) rfl)
  have w7 := hts (.selects RX2 yX2_letDownOf yX2_letDownOf) (List.mem_of_getElem? (i := 40) rfl)
  have w8 := hts (.fieldLink RX5 34 "LakePlant$Search" "ahead" "[I") (List.mem_of_getElem? (i := 3) rfl)
  have w9 := hts (.instanceMethod yX2_spilledOf) (List.mem_of_getElem? (i := 22) rfl)
  have w10 := hts (.selects RX2 yX2_spilledOf yX2_spilledOf) (List.mem_of_getElem? (i := 23) rfl)
  have w11 := hts (.fieldLink RX5 31 "LakePlant$Search" "earned" "[I") (List.mem_of_getElem? (i := 1) rfl)
  have w12 := hts (.instanceMethod yX2_earnedBy) (List.mem_of_getElem? (i := 5) rfl)
  have w13 := hts (.selects RX2 yX2_earnedBy yX2_earnedBy) (List.mem_of_getElem? (i := 7) rfl)
  subst hsz
  have hD := hD0.self (sz := s.heap.size)
  generalize hAe : va_A ([(so, .inr (5, [.ref h0, .ref mo, .ref ga, .ref pla, .int (iz (fo)), .int (iz (sv)), .ref ea, .ref ah, .ref ia])), (mo, .inl (T 1, 25, .inr (.inr (.inr (.inr (fun i => some (rw i))))))), (ea, .inl (T 0, 31, .inl (zA Ea))), (ah, .inl (T 0, 330, .inl (zA Ah))), (ia, .inl (T 0, 330, .inl (zA Id))), (h0, .inr (2, [.ref h1, .int (iz (ve))])), (h1, .inl (T 0, 115, .inl (zA Z)))] ++ kRows T rw 25 201 M) s.heap.size = A at hD ⊢
  have hA : ∀ q : Nat, s.heap.size ≤ q → A q := fun q h => by rw [← hAe]; exact Or.inr h
  have hS : va_S A s.heap s.heap [] := va_S.rf
  have hP : va_P D vwCl ([(so, .inr (5, [.ref h0, .ref mo, .ref ga, .ref pla, .int (iz (fo)), .int (iz (sv)), .ref ea, .ref ah, .ref ia])), (mo, .inl (T 1, 25, .inr (.inr (.inr (.inr (fun i => some (rw i))))))), (ea, .inl (T 0, 31, .inl (zA Ea))), (ah, .inl (T 0, 330, .inl (zA Ah))), (ia, .inl (T 0, 330, .inl (zA Id))), (h0, .inr (2, [.ref h1, .int (iz (ve))])), (h1, .inl (T 0, 115, .inl (zA Z)))] ++ kRows T rw 25 201 M) s.heap := hP
  have hl := lv_entry ([.ref so, .int (iz (((k : Nat) : Int)))]) (n := 4) (Nat.le_of_ble_eq_true rfl)
  rw [lg_entry_eq]
  generalize (lg_sl ([.ref so, .int (iz (((k : Nat) : Int)))]) ++ List.replicate (4 - (lg_sl ([.ref so, .int (iz (((k : Nat) : Int)))])).length) Slot.unset).toArray = ls at hl ⊢
  have hl : lv_has ls 4 [(0, .ref so), (1, .int (iz (((k : Nat) : Int))))] := hl
  have hs := hV.1
  unfold VS at hs
  have hah := ahF_rng hV hM
  have hea := eaF_rng hV hk
  refine lv_iconst (v := iz (0)) hx hb dX5_lookAt_0 (by decide) ?_
  refine lv_istore_n (lv' := [(2, .int (iz (0))), (0, .ref so), (1, .int (iz (((k : Nat) : Int))))]) hx hb dX5_lookAt_1 rfl hl (by decide) rfl (fun ls hl => ?_)
  have hl : lv_has ls 4 [(2, .int (iz (((0 : Nat) : Int)))), (0, .ref so), (1, .int (iz (((k : Nat) : Int))))] := by rw [← (show (0 : Int) = ((0 : Nat) : Int) from (by first | rfl | omega))]; exact hl
  have hZ : (Ea : Nat → Int) = zmix 0 (eaF Z k) Ea := (zmix_0 _ _)
  have hP : va_P D vwCl ([(so, .inr (5, [.ref h0, .ref mo, .ref ga, .ref pla, .int (iz (fo)), .int (iz (sv)), .ref ea, .ref ah, .ref ia])), (mo, .inl (T 1, 25, .inr (.inr (.inr (.inr (fun i => some (rw i))))))), (ea, .inl (T 0, 31, .inl (zA (zmix 0 (eaF Z k) Ea)))), (ah, .inl (T 0, 330, .inl (zA Ah))), (ia, .inl (T 0, 330, .inl (zA Id))), (h0, .inr (2, [.ref h1, .int (iz (ve))])), (h1, .inl (T 0, 115, .inl (zA Z)))] ++ kRows T rw 25 201 M) s.heap := by rw [← hZ]; exact hP
  have hD : va_D A ([(so, .inr (5, [.ref h0, .ref mo, .ref ga, .ref pla, .int (iz (fo)), .int (iz (sv)), .ref ea, .ref ah, .ref ia])), (mo, .inl (T 1, 25, .inr (.inr (.inr (.inr (fun i => some (rw i))))))), (ea, .inl (T 0, 31, .inl (zA (zmix 0 (eaF Z k) Ea)))), (ah, .inl (T 0, 330, .inl (zA Ah))), (ia, .inl (T 0, 330, .inl (zA Id))), (h0, .inr (2, [.ref h1, .int (iz (ve))])), (h1, .inl (T 0, 115, .inl (zA Z)))] ++ kRows T rw 25 201 M) := by rw [← hZ]; exact hD
  refine kz_loopW1 (pc := 2) (I := fun (n : Nat) (H : Heap) (locs : List Loc) (ls : Array Slot) => (n ≤ 31) ∧ va_P D vwCl ([(so, .inr (5, [.ref h0, .ref mo, .ref ga, .ref pla, .int (iz (fo)), .int (iz (sv)), .ref ea, .ref ah, .ref ia])), (mo, .inl (T 1, 25, .inr (.inr (.inr (.inr (fun i => some (rw i))))))), (ea, .inl (T 0, 31, .inl (zA (zmix n (eaF Z k) Ea)))), (ah, .inl (T 0, 330, .inl (zA Ah))), (ia, .inl (T 0, 330, .inl (zA Id))), (h0, .inr (2, [.ref h1, .int (iz (ve))])), (h1, .inl (T 0, 115, .inl (zA Z)))] ++ kRows T rw 25 201 M) H ∧ va_D A ([(so, .inr (5, [.ref h0, .ref mo, .ref ga, .ref pla, .int (iz (fo)), .int (iz (sv)), .ref ea, .ref ah, .ref ia])), (mo, .inl (T 1, 25, .inr (.inr (.inr (.inr (fun i => some (rw i))))))), (ea, .inl (T 0, 31, .inl (zA (zmix n (eaF Z k) Ea)))), (ah, .inl (T 0, 330, .inl (zA Ah))), (ia, .inl (T 0, 330, .inl (zA Id))), (h0, .inr (2, [.ref h1, .int (iz (ve))])), (h1, .inl (T 0, 115, .inl (zA Z)))] ++ kRows T rw 25 201 M) ∧ va_S A s.heap H locs ∧ lv_has ls 4 [(0, .ref so), (1, .int (iz (((k : Nat) : Int)))), (2, .int (iz (((n : Nat) : Int))))]) (μ := fun (n : Nat) => 31 - n) 0 ⟨(by omega), hP, hD, hS, lv_sub hl [1, 2, 0] rfl⟩ ?_
  rintro n H locs ls ⟨hn, hP, hD, hS, hl⟩ ih2
  refine lv_iload_n hx hb dX5_lookAt_2 rfl (lv_at hl 2 rfl) ?_
  refine lv_bipush (v := iz (30)) hx hb dX5_lookAt_3 (by decide) ?_
  refine kz_icmp_gt (tgt := 29) hx hb dX5_lookAt_5 (by decide) (by omega) (by omega) (fun c5 => ?_) (fun c5 => ?_)
  · have hnn : n = 31 := by omega
    subst hnn
    have hl : lv_has ls 4 [(0, .ref so), (1, .int (iz (((k : Nat) : Int)))), (2, .int (iz (((31 : Nat) : Int))))] := hl
    refine lv_iconst (v := iz (0)) hx hb dX5_lookAt_29 (by decide) ?_
    refine lv_istore_n (lv' := [(2, .int (iz (0))), (0, .ref so), (1, .int (iz (((k : Nat) : Int))))]) hx hb dX5_lookAt_30 rfl hl (by decide) rfl (fun ls hl => ?_)
    have hl : lv_has ls 4 [(2, .int (iz (((0 : Nat) : Int)))), (0, .ref so), (1, .int (iz (((k : Nat) : Int))))] := by rw [← (show (0 : Int) = ((0 : Nat) : Int) from (by first | rfl | omega))]; exact hl
    have hZ : (Ah : Nat → Int) = zmix 0 (ahF Z M k) Ah := (zmix_0 _ _)
    have hP : va_P D vwCl ([(so, .inr (5, [.ref h0, .ref mo, .ref ga, .ref pla, .int (iz (fo)), .int (iz (sv)), .ref ea, .ref ah, .ref ia])), (mo, .inl (T 1, 25, .inr (.inr (.inr (.inr (fun i => some (rw i))))))), (ea, .inl (T 0, 31, .inl (zA (zmix 31 (eaF Z k) Ea)))), (ah, .inl (T 0, 330, .inl (zA (zmix 0 (ahF Z M k) Ah)))), (ia, .inl (T 0, 330, .inl (zA Id))), (h0, .inr (2, [.ref h1, .int (iz (ve))])), (h1, .inl (T 0, 115, .inl (zA Z)))] ++ kRows T rw 25 201 M) H := by rw [← hZ]; exact hP
    have hD : va_D A ([(so, .inr (5, [.ref h0, .ref mo, .ref ga, .ref pla, .int (iz (fo)), .int (iz (sv)), .ref ea, .ref ah, .ref ia])), (mo, .inl (T 1, 25, .inr (.inr (.inr (.inr (fun i => some (rw i))))))), (ea, .inl (T 0, 31, .inl (zA (zmix 31 (eaF Z k) Ea)))), (ah, .inl (T 0, 330, .inl (zA (zmix 0 (ahF Z M k) Ah)))), (ia, .inl (T 0, 330, .inl (zA Id))), (h0, .inr (2, [.ref h1, .int (iz (ve))])), (h1, .inl (T 0, 115, .inl (zA Z)))] ++ kRows T rw 25 201 M) := by rw [← hZ]; exact hD
    refine kz_loopW1 (pc := 31) (I := fun (n : Nat) (H : Heap) (locs : List Loc) (ls : Array Slot) => (n ≤ 330) ∧ va_P D vwCl ([(so, .inr (5, [.ref h0, .ref mo, .ref ga, .ref pla, .int (iz (fo)), .int (iz (sv)), .ref ea, .ref ah, .ref ia])), (mo, .inl (T 1, 25, .inr (.inr (.inr (.inr (fun i => some (rw i))))))), (ea, .inl (T 0, 31, .inl (zA (zmix 31 (eaF Z k) Ea)))), (ah, .inl (T 0, 330, .inl (zA (zmix n (ahF Z M k) Ah)))), (ia, .inl (T 0, 330, .inl (zA Id))), (h0, .inr (2, [.ref h1, .int (iz (ve))])), (h1, .inl (T 0, 115, .inl (zA Z)))] ++ kRows T rw 25 201 M) H ∧ va_D A ([(so, .inr (5, [.ref h0, .ref mo, .ref ga, .ref pla, .int (iz (fo)), .int (iz (sv)), .ref ea, .ref ah, .ref ia])), (mo, .inl (T 1, 25, .inr (.inr (.inr (.inr (fun i => some (rw i))))))), (ea, .inl (T 0, 31, .inl (zA (zmix 31 (eaF Z k) Ea)))), (ah, .inl (T 0, 330, .inl (zA (zmix n (ahF Z M k) Ah)))), (ia, .inl (T 0, 330, .inl (zA Id))), (h0, .inr (2, [.ref h1, .int (iz (ve))])), (h1, .inl (T 0, 115, .inl (zA Z)))] ++ kRows T rw 25 201 M) ∧ va_S A s.heap H locs ∧ lv_has ls 4 [(0, .ref so), (1, .int (iz (((k : Nat) : Int)))), (2, .int (iz (((n : Nat) : Int))))]) (μ := fun (n : Nat) => 330 - n) 0 ⟨(by omega), hP, hD, hS, lv_sub hl [1, 2, 0] rfl⟩ ?_
    rintro n H locs ls ⟨hn, hP, hD, hS, hl⟩ ih31
    have hsp : 0 ≤ lk_spill Z ((n : Nat) : Int) ∧ lk_spill Z ((n : Nat) : Int) ≤ ((n : Nat) : Int) ∧ ((n : Nat) : Int) - lk_spill Z ((n : Nat) : Int) ≤ 200 := by unfold lk_spill; omega
    refine lv_iload_n hx hb dX5_lookAt_31 rfl (lv_at hl 2 rfl) ?_
    refine lv_sipush (v := iz (329)) hx hb dX5_lookAt_32 (by decide) ?_
    refine kz_icmp_gt (tgt := 67) hx hb dX5_lookAt_35 (by decide) (by omega) (by omega) (fun c35 => ?_) (fun c35 => ?_)
    · have hnn : n = 330 := by omega
      subst hnn
      have hl : lv_has ls 4 [(0, .ref so), (1, .int (iz (((k : Nat) : Int)))), (2, .int (iz (((330 : Nat) : Int))))] := hl
      refine lv_aload_n hx hb dX5_lookAt_67 rfl (lv_at hl 0 rfl) ?_
      refine va_get (D := D) (ci := 5) (C := RX5) (T := TX5) (N := 9) hx hb hts w1 hown hK.1 hP 0 rfl rfl 0 (by decide) w0 (fun _ h9 => h9) rfl dX5_lookAt_68 ?_
      refine lv_iconst (v := iz (4)) hx hb dX5_lookAt_71 (by decide) ?_
      refine kz_top (y := ((4 : Nat) : Int)) rfl ?_
      refine kc_i (va_runVN (As := [.int (iz (((4 : Nat) : Int)))]) (rest := []) ⟨hx, hb, hml, hown, hts⟩ (c_X2_settingOf l D T h0 h1 Z ve 4 (by omega)) ⟨va_cnB 1 hts gX5_lookAt_X2_settingOf_n49 rfl rfl rfl (kn_RX5_49 hK) w2 (by decide +kernel) ⟨Nat.le_of_ble_eq_true rfl, Nat.le_of_ble_eq_true rfl⟩, w3, w4⟩ (kPc.v hK (va_recv hK.1 hP (ci := 2) (q0 := 5) rfl rfl) (kcut hP [5, 6] rfl)) rfl rfl hl.1 rfl (lv_room (Nat.le_of_ble_eq_true rfl)) dX5_lookAt_72 ⟨Nat.zero_le _, Nat.zero_le _⟩) (fun r1 hr1 => ?_)
      subst hr1
      refine lv_istore_n (lv' := [(2, .int (iz (Z 4))), (0, .ref so), (1, .int (iz (((k : Nat) : Int))))]) hx hb dX5_lookAt_75 rfl hl (by decide) rfl (fun ls hl => ?_)
      refine lv_iconst (v := iz (0)) hx hb dX5_lookAt_76 (by decide) ?_
      refine lv_istore_n (lv' := [(3, .int (iz (0))), (2, .int (iz (Z 4))), (0, .ref so), (1, .int (iz (((k : Nat) : Int))))]) hx hb dX5_lookAt_77 rfl hl (by decide) rfl (fun ls hl => ?_)
      have hl : lv_has ls 4 [(3, .int (iz (((0 : Nat) : Int)))), (2, .int (iz (Z 4))), (0, .ref so), (1, .int (iz (((k : Nat) : Int))))] := by rw [← (show (0 : Int) = ((0 : Nat) : Int) from (by first | rfl | omega))]; exact hl
      have hZ : (Id : Nat → Int) = zmix 0 (idF Z (ahF Z M k) (eaF Z k)) Id := (zmix_0 _ _)
      have hP : va_P D vwCl ([(so, .inr (5, [.ref h0, .ref mo, .ref ga, .ref pla, .int (iz (fo)), .int (iz (sv)), .ref ea, .ref ah, .ref ia])), (mo, .inl (T 1, 25, .inr (.inr (.inr (.inr (fun i => some (rw i))))))), (ea, .inl (T 0, 31, .inl (zA (zmix 31 (eaF Z k) Ea)))), (ah, .inl (T 0, 330, .inl (zA (zmix 330 (ahF Z M k) Ah)))), (ia, .inl (T 0, 330, .inl (zA (zmix 0 (idF Z (ahF Z M k) (eaF Z k)) Id)))), (h0, .inr (2, [.ref h1, .int (iz (ve))])), (h1, .inl (T 0, 115, .inl (zA Z)))] ++ kRows T rw 25 201 M) H := by rw [← hZ]; exact hP
      have hD : va_D A ([(so, .inr (5, [.ref h0, .ref mo, .ref ga, .ref pla, .int (iz (fo)), .int (iz (sv)), .ref ea, .ref ah, .ref ia])), (mo, .inl (T 1, 25, .inr (.inr (.inr (.inr (fun i => some (rw i))))))), (ea, .inl (T 0, 31, .inl (zA (zmix 31 (eaF Z k) Ea)))), (ah, .inl (T 0, 330, .inl (zA (zmix 330 (ahF Z M k) Ah)))), (ia, .inl (T 0, 330, .inl (zA (zmix 0 (idF Z (ahF Z M k) (eaF Z k)) Id)))), (h0, .inr (2, [.ref h1, .int (iz (ve))])), (h1, .inl (T 0, 115, .inl (zA Z)))] ++ kRows T rw 25 201 M) := by rw [← hZ]; exact hD
      refine kz_loopW1 (pc := 78) (I := fun (n : Nat) (H : Heap) (locs : List Loc) (ls : Array Slot) => (n ≤ 330) ∧ va_P D vwCl ([(so, .inr (5, [.ref h0, .ref mo, .ref ga, .ref pla, .int (iz (fo)), .int (iz (sv)), .ref ea, .ref ah, .ref ia])), (mo, .inl (T 1, 25, .inr (.inr (.inr (.inr (fun i => some (rw i))))))), (ea, .inl (T 0, 31, .inl (zA (zmix 31 (eaF Z k) Ea)))), (ah, .inl (T 0, 330, .inl (zA (zmix 330 (ahF Z M k) Ah)))), (ia, .inl (T 0, 330, .inl (zA (zmix n (idF Z (ahF Z M k) (eaF Z k)) Id)))), (h0, .inr (2, [.ref h1, .int (iz (ve))])), (h1, .inl (T 0, 115, .inl (zA Z)))] ++ kRows T rw 25 201 M) H ∧ va_D A ([(so, .inr (5, [.ref h0, .ref mo, .ref ga, .ref pla, .int (iz (fo)), .int (iz (sv)), .ref ea, .ref ah, .ref ia])), (mo, .inl (T 1, 25, .inr (.inr (.inr (.inr (fun i => some (rw i))))))), (ea, .inl (T 0, 31, .inl (zA (zmix 31 (eaF Z k) Ea)))), (ah, .inl (T 0, 330, .inl (zA (zmix 330 (ahF Z M k) Ah)))), (ia, .inl (T 0, 330, .inl (zA (zmix n (idF Z (ahF Z M k) (eaF Z k)) Id)))), (h0, .inr (2, [.ref h1, .int (iz (ve))])), (h1, .inl (T 0, 115, .inl (zA Z)))] ++ kRows T rw 25 201 M) ∧ va_S A s.heap H locs ∧ lv_has ls 4 [(0, .ref so), (1, .int (iz (((k : Nat) : Int)))), (2, .int (iz (Z 4))), (3, .int (iz (((n : Nat) : Int))))]) (μ := fun (n : Nat) => 330 - n) 0 ⟨(by omega), hP, hD, hS, lv_sub hl [2, 3, 1, 0] rfl⟩ ?_
      rintro n H locs ls ⟨hn, hP, hD, hS, hl⟩ ih78
      have hdr := lk_down_rng Z ((n : Nat) : Int) (Z 4) (by omega)
      refine lv_iload_n hx hb dX5_lookAt_78 rfl (lv_at hl 3 rfl) ?_
      refine lv_sipush (v := iz (329)) hx hb dX5_lookAt_79 (by decide) ?_
      refine kz_icmp_gt (tgt := 111) hx hb dX5_lookAt_82 (by decide) (by omega) (by omega) (fun c82 => ?_) (fun c82 => ?_)
      · have hnn : n = 330 := by omega
        subst hnn
        have hl : lv_has ls 4 [(0, .ref so), (1, .int (iz (((k : Nat) : Int)))), (2, .int (iz (Z 4))), (3, .int (iz (((330 : Nat) : Int))))] := hl
        exact W.vret hx hb hr (fun t ht hW => ⟨⟨(), rfl, trivial, by show va_P _ _ _ t.heap; rw [ht]; exact hP⟩, hS.F ht⟩) hS.2.2 dX5_lookAt_111
      · refine lv_aload_n hx hb dX5_lookAt_85 rfl (lv_at hl 0 rfl) ?_
        refine va_get (D := D) (ci := 5) (C := RX5) (T := TX5) (N := 9) hx hb hts w1 hown hK.1 hP 0 rfl rfl 8 (by decide) w5 (fun _ h9 => h9) rfl dX5_lookAt_86 ?_
        refine lv_iload_n hx hb dX5_lookAt_89 rfl (lv_at hl 3 rfl) ?_
        refine lv_aload_n hx hb dX5_lookAt_90 rfl (lv_at hl 0 rfl) ?_
        refine lv_iload_n hx hb dX5_lookAt_91 rfl (lv_at hl 3 rfl) ?_
        refine lv_aload_n hx hb dX5_lookAt_92 rfl (lv_at hl 0 rfl) ?_
        refine va_get (D := D) (ci := 5) (C := RX5) (T := TX5) (N := 9) hx hb hts w1 hown hK.1 hP 0 rfl rfl 0 (by decide) w0 (fun _ h9 => h9) rfl dX5_lookAt_93 ?_
        refine lv_iload_n hx hb dX5_lookAt_96 rfl (lv_at hl 3 rfl) ?_
        refine lv_iload_n hx hb dX5_lookAt_97 rfl (lv_at hl 2 rfl) ?_
        refine kc_i (va_runVN (As := [.int (iz (((n : Nat) : Int))), .int (iz (Z 4))]) (rest := [.int (iz (((n : Nat) : Int))), .ref so, .int (iz (((n : Nat) : Int))), .ref ia]) ⟨hx, hb, hml, hown, hts⟩ (c_X2_letDownOf l D T h0 h1 Z ve ((n : Nat) : Int) (Z 4) hV (by omega) (by omega)) ⟨va_cnB 2 hts gX5_lookAt_X2_letDownOf_n77 rfl rfl rfl (kn_RX5_77 hK) w2 (by decide +kernel) ⟨Nat.le_of_ble_eq_true rfl, Nat.le_of_ble_eq_true rfl⟩, w6, w7⟩ (kPc.v hK (va_recv hK.1 hP (ci := 2) (q0 := 5) rfl rfl) (kcut hP [5, 6] rfl)) rfl rfl hl.1 rfl (lv_room (Nat.le_of_ble_eq_true rfl)) dX5_lookAt_98 ⟨Nat.zero_le _, Nat.zero_le _⟩) (fun r2 hr2 => ?_)
        subst hr2
        refine kc_i (va_runV (As := [.int (iz (((n : Nat) : Int))), .int (iz (lk_down Z ((n : Nat) : Int) (Z 4)))]) (rest := [.int (iz (((n : Nat) : Int))), .ref ia]) ⟨hx, hb, hml, hown, hts⟩ (c_X5_mostWith l D T so mo ga pla ea ah ia fo sv h0 (zmix 31 (eaF Z k) Ea) (zmix 330 (ahF Z M k) Ah) ((n : Nat) : Int) (lk_down Z ((n : Nat) : Int) (Z 4)) (by omega) (by omega) (zmix_rng hea (Nat.le_refl 31)) (zmix_rng (fun r _ => hah r) (Nat.le_refl 330))) (cwV 2 hts gX5_lookAt_X5_mostWith rfl rfl rfl (by decide +kernel) ⟨Nat.le_of_ble_eq_true rfl, Nat.le_of_ble_eq_true rfl⟩) (kPc.v hK (va_recv hK.1 hP (ci := 5) (q0 := 0) rfl rfl) (kcut hP [0, 2, 3] rfl)) rfl rfl hl.1 rfl (lv_room (Nat.le_of_ble_eq_true rfl)) dX5_lookAt_101 ⟨Nat.zero_le _, Nat.zero_le _⟩) (fun r3 hr3 => ?_)
        subst hr3
        refine kz_top (y := mwF (ahF Z M k) (eaF Z k) ((n : Nat) : Int) (lk_down Z ((n : Nat) : Int) (Z 4))) (mwF_mix _ _ _ _ _ _) ?_
        refine kz_iast hx hb hK hP hD hS (4) rfl (n) (by omega) (by omega) (by omega) dX5_lookAt_104 (fun H locs hP hD hS => ?_)
        have hP : va_P D vwCl ([(so, .inr (5, [.ref h0, .ref mo, .ref ga, .ref pla, .int (iz (fo)), .int (iz (sv)), .ref ea, .ref ah, .ref ia])), (mo, .inl (T 1, 25, .inr (.inr (.inr (.inr (fun i => some (rw i))))))), (ea, .inl (T 0, 31, .inl (zA (zmix 31 (eaF Z k) Ea)))), (ah, .inl (T 0, 330, .inl (zA (zmix 330 (ahF Z M k) Ah)))), (ia, .inl (T 0, 330, .inl (zA (zup (zmix n (idF Z (ahF Z M k) (eaF Z k)) Id) n (mwF (ahF Z M k) (eaF Z k) ((n : Nat) : Int) (lk_down Z ((n : Nat) : Int) (Z 4))))))), (h0, .inr (2, [.ref h1, .int (iz (ve))])), (h1, .inl (T 0, 115, .inl (zA Z)))] ++ kRows T rw 25 201 M) H := hP
        have hD : va_D A ([(so, .inr (5, [.ref h0, .ref mo, .ref ga, .ref pla, .int (iz (fo)), .int (iz (sv)), .ref ea, .ref ah, .ref ia])), (mo, .inl (T 1, 25, .inr (.inr (.inr (.inr (fun i => some (rw i))))))), (ea, .inl (T 0, 31, .inl (zA (zmix 31 (eaF Z k) Ea)))), (ah, .inl (T 0, 330, .inl (zA (zmix 330 (ahF Z M k) Ah)))), (ia, .inl (T 0, 330, .inl (zA (zup (zmix n (idF Z (ahF Z M k) (eaF Z k)) Id) n (mwF (ahF Z M k) (eaF Z k) ((n : Nat) : Int) (lk_down Z ((n : Nat) : Int) (Z 4))))))), (h0, .inr (2, [.ref h1, .int (iz (ve))])), (h1, .inl (T 0, 115, .inl (zA Z)))] ++ kRows T rw 25 201 M) := hD
        refine kz_iinc (b := ((n + 1 : Nat) : Int)) (lv' := [(3, .int (iz (((n + 1 : Nat) : Int)))), (0, .ref so), (1, .int (iz (((k : Nat) : Int)))), (2, .int (iz (Z 4)))]) hx hb dX5_lookAt_105 hl (k := 3) rfl (by omega) (by decide) rfl (fun ls hl => ?_)
        refine lv_goto (tgt := 78) hx hb dX5_lookAt_108 (by decide) ?_
        have hZ : (zup (zmix n (idF Z (ahF Z M k) (eaF Z k)) Id) n (mwF (ahF Z M k) (eaF Z k) ((n : Nat) : Int) (lk_down Z ((n : Nat) : Int) (Z 4))) : Nat → Int) = zmix (n + 1) (idF Z (ahF Z M k) (eaF Z k)) Id := (zmix_s rfl)
        have hP : va_P D vwCl ([(so, .inr (5, [.ref h0, .ref mo, .ref ga, .ref pla, .int (iz (fo)), .int (iz (sv)), .ref ea, .ref ah, .ref ia])), (mo, .inl (T 1, 25, .inr (.inr (.inr (.inr (fun i => some (rw i))))))), (ea, .inl (T 0, 31, .inl (zA (zmix 31 (eaF Z k) Ea)))), (ah, .inl (T 0, 330, .inl (zA (zmix 330 (ahF Z M k) Ah)))), (ia, .inl (T 0, 330, .inl (zA (zmix (n + 1) (idF Z (ahF Z M k) (eaF Z k)) Id)))), (h0, .inr (2, [.ref h1, .int (iz (ve))])), (h1, .inl (T 0, 115, .inl (zA Z)))] ++ kRows T rw 25 201 M) H := by rw [← hZ]; exact hP
        have hD : va_D A ([(so, .inr (5, [.ref h0, .ref mo, .ref ga, .ref pla, .int (iz (fo)), .int (iz (sv)), .ref ea, .ref ah, .ref ia])), (mo, .inl (T 1, 25, .inr (.inr (.inr (.inr (fun i => some (rw i))))))), (ea, .inl (T 0, 31, .inl (zA (zmix 31 (eaF Z k) Ea)))), (ah, .inl (T 0, 330, .inl (zA (zmix 330 (ahF Z M k) Ah)))), (ia, .inl (T 0, 330, .inl (zA (zmix (n + 1) (idF Z (ahF Z M k) (eaF Z k)) Id)))), (h0, .inr (2, [.ref h1, .int (iz (ve))])), (h1, .inl (T 0, 115, .inl (zA Z)))] ++ kRows T rw 25 201 M) := by rw [← hZ]; exact hD
        exact ih78 (n + 1) _ _ _ ⟨(by omega), hP, hD, hS, lv_sub hl [1, 2, 3, 0] rfl⟩ (by omega)
    · refine lv_aload_n hx hb dX5_lookAt_38 rfl (lv_at hl 0 rfl) ?_
      refine va_get (D := D) (ci := 5) (C := RX5) (T := TX5) (N := 9) hx hb hts w1 hown hK.1 hP 0 rfl rfl 7 (by decide) w8 (fun _ h9 => h9) rfl dX5_lookAt_39 ?_
      refine lv_iload_n hx hb dX5_lookAt_42 rfl (lv_at hl 2 rfl) ?_
      refine lv_aload_n hx hb dX5_lookAt_43 rfl (lv_at hl 0 rfl) ?_
      refine lv_iload_n hx hb dX5_lookAt_44 rfl (lv_at hl 1 rfl) ?_
      refine lv_iconst (v := iz (1)) hx hb dX5_lookAt_45 (by decide) ?_
      refine kz_add hx hb dX5_lookAt_46 ?_
      refine kz_top (y := ((k + 1 : Nat) : Int)) (by omega) ?_
      refine lv_iload_n hx hb dX5_lookAt_47 rfl (lv_at hl 2 rfl) ?_
      refine lv_aload_n hx hb dX5_lookAt_48 rfl (lv_at hl 0 rfl) ?_
      refine va_get (D := D) (ci := 5) (C := RX5) (T := TX5) (N := 9) hx hb hts w1 hown hK.1 hP 0 rfl rfl 0 (by decide) w0 (fun _ h9 => h9) rfl dX5_lookAt_49 ?_
      refine lv_iload_n hx hb dX5_lookAt_52 rfl (lv_at hl 2 rfl) ?_
      refine kc_i (va_runVN (As := [.int (iz (((n : Nat) : Int)))]) (rest := [.int (iz (((n : Nat) : Int))), .int (iz (((k + 1 : Nat) : Int))), .ref so, .int (iz (((n : Nat) : Int))), .ref ah]) ⟨hx, hb, hml, hown, hts⟩ (c_X2_spilledOf l D T h0 h1 Z ve ((n : Nat) : Int) hV (by omega)) ⟨va_cnB 1 hts gX5_lookAt_X2_spilledOf_n71 rfl rfl rfl (kn_RX5_71 hK) w2 (by decide +kernel) ⟨Nat.le_of_ble_eq_true rfl, Nat.le_of_ble_eq_true rfl⟩, w9, w10⟩ (kPc.v hK (va_recv hK.1 hP (ci := 2) (q0 := 5) rfl rfl) (kcut hP [5, 6] rfl)) rfl rfl hl.1 rfl (lv_room (Nat.le_of_ble_eq_true rfl)) dX5_lookAt_53 ⟨Nat.zero_le _, Nat.zero_le _⟩) (fun r4 hr4 => ?_)
      subst hr4
      refine kz_sub hx hb dX5_lookAt_56 ?_
      refine kc_i (va_runV (As := [.int (iz (((k + 1 : Nat) : Int))), .int (iz (((n : Nat) : Int) - (lk_spill Z ((n : Nat) : Int))))]) (rest := [.int (iz (((n : Nat) : Int))), .ref ah]) ⟨hx, hb, hml, hown, hts⟩ (c_X5_mostFrom l D T so mo ga pla ea ah ia fo sv h0 rw M (k + 1) (by omega) (((n : Nat) : Int) - (lk_spill Z ((n : Nat) : Int))) (by omega)) (cwV 2 hts gX5_lookAt_X5_mostFrom rfl rfl rfl (by decide +kernel) ⟨Nat.le_of_ble_eq_true rfl, Nat.le_of_ble_eq_true rfl⟩) (kPc.v hK (va_recv hK.1 hP (ci := 5) (q0 := 0) rfl rfl) (hP.part [0, 1] rfl)) rfl rfl hl.1 rfl (lv_room (Nat.le_of_ble_eq_true rfl)) dX5_lookAt_57 ⟨Nat.zero_le _, Nat.zero_le _⟩) (fun r5 hr5 => ?_)
      subst hr5
      refine kz_iast hx hb hK hP hD hS (3) rfl (n) (by omega) (by omega) (by omega) dX5_lookAt_60 (fun H locs hP hD hS => ?_)
      have hP : va_P D vwCl ([(so, .inr (5, [.ref h0, .ref mo, .ref ga, .ref pla, .int (iz (fo)), .int (iz (sv)), .ref ea, .ref ah, .ref ia])), (mo, .inl (T 1, 25, .inr (.inr (.inr (.inr (fun i => some (rw i))))))), (ea, .inl (T 0, 31, .inl (zA (zmix 31 (eaF Z k) Ea)))), (ah, .inl (T 0, 330, .inl (zA (zup (zmix n (ahF Z M k) Ah) n (M (k + 1) (((n : Nat) : Int) - (lk_spill Z ((n : Nat) : Int))).toNat))))), (ia, .inl (T 0, 330, .inl (zA Id))), (h0, .inr (2, [.ref h1, .int (iz (ve))])), (h1, .inl (T 0, 115, .inl (zA Z)))] ++ kRows T rw 25 201 M) H := hP
      have hD : va_D A ([(so, .inr (5, [.ref h0, .ref mo, .ref ga, .ref pla, .int (iz (fo)), .int (iz (sv)), .ref ea, .ref ah, .ref ia])), (mo, .inl (T 1, 25, .inr (.inr (.inr (.inr (fun i => some (rw i))))))), (ea, .inl (T 0, 31, .inl (zA (zmix 31 (eaF Z k) Ea)))), (ah, .inl (T 0, 330, .inl (zA (zup (zmix n (ahF Z M k) Ah) n (M (k + 1) (((n : Nat) : Int) - (lk_spill Z ((n : Nat) : Int))).toNat))))), (ia, .inl (T 0, 330, .inl (zA Id))), (h0, .inr (2, [.ref h1, .int (iz (ve))])), (h1, .inl (T 0, 115, .inl (zA Z)))] ++ kRows T rw 25 201 M) := hD
      refine kz_iinc (b := ((n + 1 : Nat) : Int)) (lv' := [(2, .int (iz (((n + 1 : Nat) : Int)))), (0, .ref so), (1, .int (iz (((k : Nat) : Int))))]) hx hb dX5_lookAt_61 hl (k := 2) rfl (by omega) (by decide) rfl (fun ls hl => ?_)
      refine lv_goto (tgt := 31) hx hb dX5_lookAt_64 (by decide) ?_
      have hZ : (zup (zmix n (ahF Z M k) Ah) n (M (k + 1) (((n : Nat) : Int) - (lk_spill Z ((n : Nat) : Int))).toNat) : Nat → Int) = zmix (n + 1) (ahF Z M k) Ah := (zmix_s rfl)
      have hP : va_P D vwCl ([(so, .inr (5, [.ref h0, .ref mo, .ref ga, .ref pla, .int (iz (fo)), .int (iz (sv)), .ref ea, .ref ah, .ref ia])), (mo, .inl (T 1, 25, .inr (.inr (.inr (.inr (fun i => some (rw i))))))), (ea, .inl (T 0, 31, .inl (zA (zmix 31 (eaF Z k) Ea)))), (ah, .inl (T 0, 330, .inl (zA (zmix (n + 1) (ahF Z M k) Ah)))), (ia, .inl (T 0, 330, .inl (zA Id))), (h0, .inr (2, [.ref h1, .int (iz (ve))])), (h1, .inl (T 0, 115, .inl (zA Z)))] ++ kRows T rw 25 201 M) H := by rw [← hZ]; exact hP
      have hD : va_D A ([(so, .inr (5, [.ref h0, .ref mo, .ref ga, .ref pla, .int (iz (fo)), .int (iz (sv)), .ref ea, .ref ah, .ref ia])), (mo, .inl (T 1, 25, .inr (.inr (.inr (.inr (fun i => some (rw i))))))), (ea, .inl (T 0, 31, .inl (zA (zmix 31 (eaF Z k) Ea)))), (ah, .inl (T 0, 330, .inl (zA (zmix (n + 1) (ahF Z M k) Ah)))), (ia, .inl (T 0, 330, .inl (zA Id))), (h0, .inr (2, [.ref h1, .int (iz (ve))])), (h1, .inl (T 0, 115, .inl (zA Z)))] ++ kRows T rw 25 201 M) := by rw [← hZ]; exact hD
      exact ih31 (n + 1) _ _ _ ⟨(by omega), hP, hD, hS, lv_sub hl [1, 2, 0] rfl⟩ (by omega)
  · refine lv_aload_n hx hb dX5_lookAt_8 rfl (lv_at hl 0 rfl) ?_
    refine va_get (D := D) (ci := 5) (C := RX5) (T := TX5) (N := 9) hx hb hts w1 hown hK.1 hP 0 rfl rfl 6 (by decide) w11 (fun _ h9 => h9) rfl dX5_lookAt_9 ?_
    refine lv_iload_n hx hb dX5_lookAt_12 rfl (lv_at hl 2 rfl) ?_
    refine lv_aload_n hx hb dX5_lookAt_13 rfl (lv_at hl 0 rfl) ?_
    refine va_get (D := D) (ci := 5) (C := RX5) (T := TX5) (N := 9) hx hb hts w1 hown hK.1 hP 0 rfl rfl 0 (by decide) w0 (fun _ h9 => h9) rfl dX5_lookAt_14 ?_
    refine lv_iload_n hx hb dX5_lookAt_17 rfl (lv_at hl 1 rfl) ?_
    refine lv_iload_n hx hb dX5_lookAt_18 rfl (lv_at hl 2 rfl) ?_
    refine kc_i (va_runVN (As := [.int (iz (((k : Nat) : Int))), .int (iz (((n : Nat) : Int)))]) (rest := [.int (iz (((n : Nat) : Int))), .ref ea]) ⟨hx, hb, hml, hown, hts⟩ (c_X2_earnedBy l D T h0 h1 Z ve k (by omega) ((n : Nat) : Int) hV (by omega)) ⟨va_cnB 2 hts gX5_lookAt_X2_earnedBy_n67 rfl rfl rfl (kn_RX5_67 hK) w2 (by decide +kernel) ⟨Nat.le_of_ble_eq_true rfl, Nat.le_of_ble_eq_true rfl⟩, w12, w13⟩ (kPc.v hK (va_recv hK.1 hP (ci := 2) (q0 := 5) rfl rfl) (kcut hP [5, 6] rfl)) rfl rfl hl.1 rfl (lv_room (Nat.le_of_ble_eq_true rfl)) dX5_lookAt_19 ⟨Nat.zero_le _, Nat.zero_le _⟩) (fun r6 hr6 => ?_)
    subst hr6
    refine kz_iast hx hb hK hP hD hS (2) rfl (n) (by omega) (by omega) (by omega) dX5_lookAt_22 (fun H locs hP hD hS => ?_)
    have hP : va_P D vwCl ([(so, .inr (5, [.ref h0, .ref mo, .ref ga, .ref pla, .int (iz (fo)), .int (iz (sv)), .ref ea, .ref ah, .ref ia])), (mo, .inl (T 1, 25, .inr (.inr (.inr (.inr (fun i => some (rw i))))))), (ea, .inl (T 0, 31, .inl (zA (zup (zmix n (eaF Z k) Ea) n (lk_earn Z k ((n : Nat) : Int)))))), (ah, .inl (T 0, 330, .inl (zA Ah))), (ia, .inl (T 0, 330, .inl (zA Id))), (h0, .inr (2, [.ref h1, .int (iz (ve))])), (h1, .inl (T 0, 115, .inl (zA Z)))] ++ kRows T rw 25 201 M) H := hP
    have hD : va_D A ([(so, .inr (5, [.ref h0, .ref mo, .ref ga, .ref pla, .int (iz (fo)), .int (iz (sv)), .ref ea, .ref ah, .ref ia])), (mo, .inl (T 1, 25, .inr (.inr (.inr (.inr (fun i => some (rw i))))))), (ea, .inl (T 0, 31, .inl (zA (zup (zmix n (eaF Z k) Ea) n (lk_earn Z k ((n : Nat) : Int)))))), (ah, .inl (T 0, 330, .inl (zA Ah))), (ia, .inl (T 0, 330, .inl (zA Id))), (h0, .inr (2, [.ref h1, .int (iz (ve))])), (h1, .inl (T 0, 115, .inl (zA Z)))] ++ kRows T rw 25 201 M) := hD
    refine kz_iinc (b := ((n + 1 : Nat) : Int)) (lv' := [(2, .int (iz (((n + 1 : Nat) : Int)))), (0, .ref so), (1, .int (iz (((k : Nat) : Int))))]) hx hb dX5_lookAt_23 hl (k := 2) rfl (by omega) (by decide) rfl (fun ls hl => ?_)
    refine lv_goto (tgt := 2) hx hb dX5_lookAt_26 (by decide) ?_
    have hZ : (zup (zmix n (eaF Z k) Ea) n (lk_earn Z k ((n : Nat) : Int)) : Nat → Int) = zmix (n + 1) (eaF Z k) Ea := (zmix_s rfl)
    have hP : va_P D vwCl ([(so, .inr (5, [.ref h0, .ref mo, .ref ga, .ref pla, .int (iz (fo)), .int (iz (sv)), .ref ea, .ref ah, .ref ia])), (mo, .inl (T 1, 25, .inr (.inr (.inr (.inr (fun i => some (rw i))))))), (ea, .inl (T 0, 31, .inl (zA (zmix (n + 1) (eaF Z k) Ea)))), (ah, .inl (T 0, 330, .inl (zA Ah))), (ia, .inl (T 0, 330, .inl (zA Id))), (h0, .inr (2, [.ref h1, .int (iz (ve))])), (h1, .inl (T 0, 115, .inl (zA Z)))] ++ kRows T rw 25 201 M) H := by rw [← hZ]; exact hP
    have hD : va_D A ([(so, .inr (5, [.ref h0, .ref mo, .ref ga, .ref pla, .int (iz (fo)), .int (iz (sv)), .ref ea, .ref ah, .ref ia])), (mo, .inl (T 1, 25, .inr (.inr (.inr (.inr (fun i => some (rw i))))))), (ea, .inl (T 0, 31, .inl (zA (zmix (n + 1) (eaF Z k) Ea)))), (ah, .inl (T 0, 330, .inl (zA Ah))), (ia, .inl (T 0, 330, .inl (zA Id))), (h0, .inr (2, [.ref h1, .int (iz (ve))])), (h1, .inl (T 0, 115, .inl (zA Z)))] ++ kRows T rw 25 201 M) := by rw [← hZ]; exact hD
    exact ih2 (n + 1) _ _ _ ⟨(by omega), hP, hD, hS, lv_sub hl [1, 2, 0] rfl⟩ (by omega)
set_option maxHeartbeats 4000000 in
set_option maxRecDepth 100000 in
theorem c_X5_leastWithTheMost (l : Launch) (D : va_G) (T : Nat → ClassId) (so : Nat) (mo : Nat) (ga : Nat) (pla : Nat) (ea : Nat) (ah : Nat) (ia : Nat) (fo : Int) (sv : Int) (h0 : Nat) (h1 : Nat) (Z : Nat → Int) (ve : Int) (Ea : Nat → Int) (Ah : Nat → Int) (rw : Nat → Nat) (M : Nat → Nat → Int) (k : Nat) (hk : k < 24) (lev : Int) (hV : VL Z) (hle : 0 ≤ lev ∧ lev ≤ 200) (hea : ∀ r : Nat, r < 31 → -200000 ≤ Ea r ∧ Ea r ≤ 200000) (hah : ∀ r : Nat, r < 330 → -1000000000 ≤ Ah r ∧ Ah r ≤ 1000000000) (hM : -1000000000 ≤ M k lev.toNat ∧ M k lev.toNat ≤ 1000000000) : Met l yX5_leastWithTheMost wsX5_leastWithTheMost ({ frames := 2, cells := 0, slots := 0, locals := 44 }) (kPc D T [.ref so, .int (iz (((k : Nat) : Int))), .int (iz (lev))] (va_P D vwCl ([(so, .inr (5, [.ref h0, .ref mo, .ref ga, .ref pla, .int (iz (fo)), .int (iz (sv)), .ref ea, .ref ah, .ref ia])), (mo, .inl (T 1, 25, .inr (.inr (.inr (.inr (fun i => some (rw i))))))), (ea, .inl (T 0, 31, .inl (zA Ea))), (ah, .inl (T 0, 330, .inl (zA Ah))), (h0, .inr (2, [.ref h1, .int (iz (ve))])), (h1, .inl (T 0, 115, .inl (zA Z)))] ++ kRows T rw 25 201 M))) (vp_Si (fun r : Int32 => r = iz (lwF Z Ah Ea k lev (M k lev.toNat) (-(Z 0)) (Z 0 + Z 1).toNat))) 0 0 (fun _ => False) := by
  refine Met.ofW (cc := cX5_leastWithTheMost) (maxL := 8) (ret := (some .int)) (by decide) rfl ?_
  intro p e s m args below meth c s₁ B hml hv
  obtain ⟨rfl, hK, hP⟩ := hv
  have hx := B.exec
  have hb := B.bytes
  have hr := B.returns
  have hts := atoms_spec (ws := wsX5_leastWithTheMost) B.pre
  have hown : s.vm.findClass RX5 = some m.cls := findClass_of_methodNamed B.named
  have hlocks := B.notSynchronized
  have w0 := hts (.fieldLink RX5 40 "LakePlant$Search" "lake" "LLakePlant$Lake;") (List.mem_of_getElem? (i := 1) rfl)
  have w1 : ∀ w ∈ wsX50, w ∈ wsX5_leastWithTheMost := by decide +kernel
  have w2 := hts (.initialized RX2) (List.mem_of_getElem? (i := 10) rfl)
  have w3 := hts (.instanceMethod yX2_settingOf) (List.mem_of_getElem? (i := 9) rfl)
  have w4 := hts (.selects RX2 yX2_settingOf yX2_settingOf) (List.mem_of_getElem? (i := 11) rfl)
  have w5 := hts (.static yX2_pumpedBy) (List.mem_of_getElem? (i := 14) rfl)
  have w6 := hts (.instanceMethod yX2_filledLevel) (List.mem_of_getElem? (i := 20) rfl)
  have w7 := hts (.selects RX2 yX2_filledLevel yX2_filledLevel) (List.mem_of_getElem? (i := 21) rfl)
  have w8 := hts (.instanceMethod yX2_wantedBy) (List.mem_of_getElem? (i := 31) rfl)
  have w9 := hts (.selects RX2 yX2_wantedBy yX2_wantedBy) (List.mem_of_getElem? (i := 32) rfl)
  have w10 := hts (.instanceMethod yX2_letDownOf) (List.mem_of_getElem? (i := 34) rfl)
  have w11 := hts (.selects RX2 yX2_letDownOf yX2_letDownOf) (List.mem_of_getElem? (i := 35) rfl)
  have w12 := hts (.constant RX5 53 (-1000000000)) (List.mem_of_getElem? (i := 2) rfl)
  have w13 := hts (.instanceMethod yX2_priceOf) (List.mem_of_getElem? (i := 46) rfl)
  have w14 := hts (.selects RX2 yX2_priceOf yX2_priceOf) (List.mem_of_getElem? (i := 47) rfl)
  have hP : va_P D vwCl ([(so, .inr (5, [.ref h0, .ref mo, .ref ga, .ref pla, .int (iz (fo)), .int (iz (sv)), .ref ea, .ref ah, .ref ia])), (mo, .inl (T 1, 25, .inr (.inr (.inr (.inr (fun i => some (rw i))))))), (ea, .inl (T 0, 31, .inl (zA Ea))), (ah, .inl (T 0, 330, .inl (zA Ah))), (h0, .inr (2, [.ref h1, .int (iz (ve))])), (h1, .inl (T 0, 115, .inl (zA Z)))] ++ kRows T rw 25 201 M) s.heap := hP
  have hl := lv_entry ([.ref so, .int (iz (((k : Nat) : Int))), .int (iz (lev))]) (n := 8) (Nat.le_of_ble_eq_true rfl)
  rw [lg_entry_eq]
  generalize (lg_sl ([.ref so, .int (iz (((k : Nat) : Int))), .int (iz (lev))]) ++ List.replicate (8 - (lg_sl ([.ref so, .int (iz (((k : Nat) : Int))), .int (iz (lev))])).length) Slot.unset).toArray = ls at hl ⊢
  have hl : lv_has ls 8 [(0, .ref so), (1, .int (iz (((k : Nat) : Int)))), (2, .int (iz (lev)))] := hl
  have hs := hV.1
  unfold VS at hs
  have hpr := (hV.2.1 k hk).1
  refine lv_aload_n hx hb dX5_leastWithTheMost_0 rfl (lv_at hl 0 rfl) ?_
  refine lv_iload_n hx hb dX5_leastWithTheMost_1 rfl (lv_at hl 1 rfl) ?_
  refine lv_iload_n hx hb dX5_leastWithTheMost_2 rfl (lv_at hl 2 rfl) ?_
  refine kc_i (va_runV (As := [.int (iz (((k : Nat) : Int))), .int (iz (lev))]) (rest := []) ⟨hx, hb, hml, hown, hts⟩ (c_X5_mostFrom l D T so mo ga pla ea ah ia fo sv h0 rw M k (by omega) lev (by omega)) (cwV 2 hts gX5_leastWithTheMost_X5_mostFrom rfl rfl rfl (by decide +kernel) ⟨Nat.le_of_ble_eq_true rfl, Nat.le_of_ble_eq_true rfl⟩) (kPc.v hK (va_recv hK.1 hP (ci := 5) (q0 := 0) rfl rfl) (hP.part [0, 1] rfl)) rfl rfl hl.1 rfl (lv_room (Nat.le_of_ble_eq_true rfl)) dX5_leastWithTheMost_3 ⟨Nat.zero_le _, Nat.zero_le _⟩) (fun r1 hr1 => ?_)
  subst hr1
  refine lv_istore_n (lv' := [(3, .int (iz (M k lev.toNat))), (0, .ref so), (1, .int (iz (((k : Nat) : Int)))), (2, .int (iz (lev)))]) hx hb dX5_leastWithTheMost_6 rfl hl (by decide) rfl (fun ls hl => ?_)
  refine lv_aload_n hx hb dX5_leastWithTheMost_7 rfl (lv_at hl 1 rfl) ?_
  refine va_get (D := D) (ci := 5) (C := RX5) (T := TX5) (N := 9) hx hb hts w1 hown hK.1 hP 0 rfl rfl 0 (by decide) w0 (fun _ h9 => h9) rfl dX5_leastWithTheMost_8 ?_
  refine lv_iconst (v := iz (0)) hx hb dX5_leastWithTheMost_11 (by decide) ?_
  refine kc_i (va_runVN (As := [.int (iz (0))]) (rest := []) ⟨hx, hb, hml, hown, hts⟩ (c_X2_settingOf l D T h0 h1 Z ve 0 (by omega)) ⟨va_cnB 1 hts gX5_leastWithTheMost_X2_settingOf_n49 rfl rfl rfl (kn_RX5_49 hK) w2 (by decide +kernel) ⟨Nat.le_of_ble_eq_true rfl, Nat.le_of_ble_eq_true rfl⟩, w3, w4⟩ (kPc.v hK (va_recv hK.1 hP (ci := 2) (q0 := 4) rfl rfl) (kcut hP [4, 5] rfl)) rfl rfl hl.1 rfl (lv_room (Nat.le_of_ble_eq_true rfl)) dX5_leastWithTheMost_12 ⟨Nat.zero_le _, Nat.zero_le _⟩) (fun r2 hr2 => ?_)
  subst hr2
  refine kz_neg hx hb dX5_leastWithTheMost_15 ?_
  refine lv_istore (lv' := [(4, .int (iz (-(Z 0)))), (3, .int (iz (M k lev.toNat))), (0, .ref so), (1, .int (iz (((k : Nat) : Int)))), (2, .int (iz (lev)))]) hx hb dX5_leastWithTheMost_16 hl (by decide) rfl (fun ls hl => ?_)
  have hl : lv_has ls 8 [(4, .int (iz (-(Z 0) + ((0 : Nat) : Int)))), (3, .int (iz (M k lev.toNat))), (0, .ref so), (1, .int (iz (((k : Nat) : Int)))), (2, .int (iz (lev)))] := by rw [← (show (-(Z 0) : Int) = -(Z 0) + ((0 : Nat) : Int) from (by omega))]; exact hl
  refine kz_loopR1 (pc := 18) (I := fun (j : Nat) (ls : Array Slot) => ((j : Int) ≤ Z 0 + Z 1) ∧ (lwF Z Ah Ea k lev (M k lev.toNat) (-(Z 0)) (Z 0 + Z 1).toNat = lwF Z Ah Ea k lev (M k lev.toNat) (-(Z 0) + (j : Int)) ((Z 0 + Z 1).toNat - j)) ∧ lv_has ls 8 [(0, .ref so), (1, .int (iz (((k : Nat) : Int)))), (2, .int (iz (lev))), (3, .int (iz (M k lev.toNat))), (4, .int (iz (-(Z 0) + ((j : Nat) : Int))))]) (μ := fun (j : Nat) => 61 - j) 0 ⟨(by omega), (by rw [show -(Z 0) + ((0 : Nat) : Int) = -(Z 0) by omega, Nat.sub_zero]), lv_sub hl [2, 3, 4, 1, 0] rfl⟩ ?_
  rintro j ls ⟨hj, hf, hl⟩ ih18
  have hpu := lk_pump_rng (u := -(Z 0) + ((j : Nat) : Int)) (by omega)
  have hfl := lk_fill_rng hV hk (lev := lev) hpu
  have hwa := lk_want_rng hV (u := -(Z 0) + ((j : Nat) : Int)) (by omega)
  have hdr := lk_down_rng Z (lk_fill Z k lev (lk_pump (-(Z 0) + ((j : Nat) : Int)))) (lk_want Z (-(Z 0) + ((j : Nat) : Int))) hwa.1
  have hmw := mwF_rng (f := lk_fill Z k lev (lk_pump (-(Z 0) + ((j : Nat) : Int)))) (d := lk_down Z (lk_fill Z k lev (lk_pump (-(Z 0) + ((j : Nat) : Int)))) (lk_want Z (-(Z 0) + ((j : Nat) : Int)))) hah hea
  have hpp := zmul hpu hpr
  refine lv_iload hx hb dX5_leastWithTheMost_18 (lv_at hl 4 rfl) ?_
  refine lv_aload_n hx hb dX5_leastWithTheMost_20 rfl (lv_at hl 0 rfl) ?_
  refine va_get (D := D) (ci := 5) (C := RX5) (T := TX5) (N := 9) hx hb hts w1 hown hK.1 hP 0 rfl rfl 0 (by decide) w0 (fun _ h9 => h9) rfl dX5_leastWithTheMost_21 ?_
  refine lv_iconst (v := iz (1)) hx hb dX5_leastWithTheMost_24 (by decide) ?_
  refine kc_i (va_runVN (As := [.int (iz (1))]) (rest := [.int (iz (-(Z 0) + ((j : Nat) : Int)))]) ⟨hx, hb, hml, hown, hts⟩ (c_X2_settingOf l D T h0 h1 Z ve 1 (by omega)) ⟨va_cnB 1 hts gX5_leastWithTheMost_X2_settingOf_n49 rfl rfl rfl (kn_RX5_49 hK) w2 (by decide +kernel) ⟨Nat.le_of_ble_eq_true rfl, Nat.le_of_ble_eq_true rfl⟩, w3, w4⟩ (kPc.v hK (va_recv hK.1 hP (ci := 2) (q0 := 4) rfl rfl) (kcut hP [4, 5] rfl)) rfl rfl hl.1 rfl (lv_room (Nat.le_of_ble_eq_true rfl)) dX5_leastWithTheMost_25 ⟨Nat.zero_le _, Nat.zero_le _⟩) (fun r3 hr3 => ?_)
  subst hr3
  refine kz_icmp_ge (tgt := 111) hx hb dX5_leastWithTheMost_28 (by decide) (by omega) (by omega) (fun c28 => ?_) (fun c28 => ?_)
  · have hnn : (Z 0 + Z 1).toNat - j = 0 := by omega
    refine lv_aload_n hx hb dX5_leastWithTheMost_111 rfl (lv_at hl 0 rfl) ?_
    refine va_get (D := D) (ci := 5) (C := RX5) (T := TX5) (N := 9) hx hb hts w1 hown hK.1 hP 0 rfl rfl 0 (by decide) w0 (fun _ h9 => h9) rfl dX5_leastWithTheMost_112 ?_
    refine lv_iconst (v := iz (1)) hx hb dX5_leastWithTheMost_115 (by decide) ?_
    refine kc_i (va_runVN (As := [.int (iz (1))]) (rest := []) ⟨hx, hb, hml, hown, hts⟩ (c_X2_settingOf l D T h0 h1 Z ve 1 (by omega)) ⟨va_cnB 1 hts gX5_leastWithTheMost_X2_settingOf_n49 rfl rfl rfl (kn_RX5_49 hK) w2 (by decide +kernel) ⟨Nat.le_of_ble_eq_true rfl, Nat.le_of_ble_eq_true rfl⟩, w3, w4⟩ (kPc.v hK (va_recv hK.1 hP (ci := 2) (q0 := 4) rfl rfl) (kcut hP [4, 5] rfl)) rfl rfl hl.1 rfl (lv_room (Nat.le_of_ble_eq_true rfl)) dX5_leastWithTheMost_116 ⟨Nat.zero_le _, Nat.zero_le _⟩) (fun r4 hr4 => ?_)
    subst hr4
    exact W.iret hx hb hr (fun t ht _ => ⟨_, rfl, (congrArg iz (by rw [hf, hnn]; show _ = -(Z 0) + (j : Int); omega)), ht⟩) (fun _ h => absurd h List.not_mem_nil) dX5_leastWithTheMost_119
  · refine lv_iload hx hb dX5_leastWithTheMost_31 (lv_at hl 4 rfl) ?_
    refine kc_i (va_runSN (As := [.int (iz (-(Z 0) + ((j : Nat) : Int)))]) (rest := []) ⟨hx, hb, hml, hown, hts⟩ (c_X2_pumpedBy l D T (-(Z 0) + ((j : Nat) : Int)) (by omega)) ⟨va_cnB 1 hts gX5_leastWithTheMost_X2_pumpedBy_n114 rfl rfl rfl (kn_RX5_114 hK) w2 (by decide +kernel) ⟨Nat.le_of_ble_eq_true rfl, Nat.le_of_ble_eq_true rfl⟩, w5, trivial⟩ (kPc.s hK (kcut hP [] rfl)) rfl rfl hl.1 rfl (lv_room (Nat.le_of_ble_eq_true rfl)) dX5_leastWithTheMost_33 ⟨Nat.zero_le _, Nat.zero_le _⟩) (fun r5 hr5 => ?_)
    subst hr5
    refine lv_istore (lv' := [(5, .int (iz (lk_pump (-(Z 0) + ((j : Nat) : Int))))), (0, .ref so), (1, .int (iz (((k : Nat) : Int)))), (2, .int (iz (lev))), (3, .int (iz (M k lev.toNat))), (4, .int (iz (-(Z 0) + ((j : Nat) : Int))))]) hx hb dX5_leastWithTheMost_36 hl (by decide) rfl (fun ls hl => ?_)
    refine lv_aload_n hx hb dX5_leastWithTheMost_38 rfl (lv_at hl 1 rfl) ?_
    refine va_get (D := D) (ci := 5) (C := RX5) (T := TX5) (N := 9) hx hb hts w1 hown hK.1 hP 0 rfl rfl 0 (by decide) w0 (fun _ h9 => h9) rfl dX5_leastWithTheMost_39 ?_
    refine lv_iload_n hx hb dX5_leastWithTheMost_42 rfl (lv_at hl 2 rfl) ?_
    refine lv_iload_n hx hb dX5_leastWithTheMost_43 rfl (lv_at hl 3 rfl) ?_
    refine lv_iload hx hb dX5_leastWithTheMost_44 (lv_at hl 0 rfl) ?_
    refine kc_i (va_runVN (As := [.int (iz (((k : Nat) : Int))), .int (iz (lev)), .int (iz (lk_pump (-(Z 0) + ((j : Nat) : Int))))]) (rest := []) ⟨hx, hb, hml, hown, hts⟩ (c_X2_filledLevel l D T h0 h1 Z ve k (by omega) lev (lk_pump (-(Z 0) + ((j : Nat) : Int))) hV (by omega)) ⟨va_cnB 3 hts gX5_leastWithTheMost_X2_filledLevel_n117 rfl rfl rfl (kn_RX5_117 hK) w2 (by decide +kernel) ⟨Nat.le_of_ble_eq_true rfl, Nat.le_of_ble_eq_true rfl⟩, w6, w7⟩ (kPc.v hK (va_recv hK.1 hP (ci := 2) (q0 := 4) rfl rfl) (kcut hP [4, 5] rfl)) rfl rfl hl.1 rfl (lv_room (Nat.le_of_ble_eq_true rfl)) dX5_leastWithTheMost_46 ⟨Nat.zero_le _, Nat.zero_le _⟩) (fun r6 hr6 => ?_)
    subst hr6
    refine lv_istore (lv' := [(6, .int (iz (lk_fill Z k lev (lk_pump (-(Z 0) + ((j : Nat) : Int)))))), (5, .int (iz (lk_pump (-(Z 0) + ((j : Nat) : Int))))), (0, .ref so), (1, .int (iz (((k : Nat) : Int)))), (2, .int (iz (lev))), (3, .int (iz (M k lev.toNat))), (4, .int (iz (-(Z 0) + ((j : Nat) : Int))))]) hx hb dX5_leastWithTheMost_49 hl (by decide) rfl (fun ls hl => ?_)
    refine lv_aload_n hx hb dX5_leastWithTheMost_51 rfl (lv_at hl 2 rfl) ?_
    refine lv_iload hx hb dX5_leastWithTheMost_52 (lv_at hl 0 rfl) ?_
    refine lv_aload_n hx hb dX5_leastWithTheMost_54 rfl (lv_at hl 2 rfl) ?_
    refine va_get (D := D) (ci := 5) (C := RX5) (T := TX5) (N := 9) hx hb hts w1 hown hK.1 hP 0 rfl rfl 0 (by decide) w0 (fun _ h9 => h9) rfl dX5_leastWithTheMost_55 ?_
    refine lv_iload hx hb dX5_leastWithTheMost_58 (lv_at hl 0 rfl) ?_
    refine lv_aload_n hx hb dX5_leastWithTheMost_60 rfl (lv_at hl 2 rfl) ?_
    refine va_get (D := D) (ci := 5) (C := RX5) (T := TX5) (N := 9) hx hb hts w1 hown hK.1 hP 0 rfl rfl 0 (by decide) w0 (fun _ h9 => h9) rfl dX5_leastWithTheMost_61 ?_
    refine lv_iload hx hb dX5_leastWithTheMost_64 (lv_at hl 6 rfl) ?_
    refine kc_i (va_runVN (As := [.int (iz (-(Z 0) + ((j : Nat) : Int)))]) (rest := [.int (iz (lk_fill Z k lev (lk_pump (-(Z 0) + ((j : Nat) : Int))))), .ref h0, .int (iz (lk_fill Z k lev (lk_pump (-(Z 0) + ((j : Nat) : Int))))), .ref so]) ⟨hx, hb, hml, hown, hts⟩ (c_X2_wantedBy l D T h0 h1 Z ve (-(Z 0) + ((j : Nat) : Int)) hV (by omega)) ⟨va_cnB 1 hts gX5_leastWithTheMost_X2_wantedBy_n120 rfl rfl rfl (kn_RX5_120 hK) w2 (by decide +kernel) ⟨Nat.le_of_ble_eq_true rfl, Nat.le_of_ble_eq_true rfl⟩, w8, w9⟩ (kPc.v hK (va_recv hK.1 hP (ci := 2) (q0 := 4) rfl rfl) (kcut hP [4, 5] rfl)) rfl rfl hl.1 rfl (lv_room (Nat.le_of_ble_eq_true rfl)) dX5_leastWithTheMost_66 ⟨Nat.zero_le _, Nat.zero_le _⟩) (fun r7 hr7 => ?_)
    subst hr7
    refine kc_i (va_runVN (As := [.int (iz (lk_fill Z k lev (lk_pump (-(Z 0) + ((j : Nat) : Int))))), .int (iz (lk_want Z (-(Z 0) + ((j : Nat) : Int))))]) (rest := [.int (iz (lk_fill Z k lev (lk_pump (-(Z 0) + ((j : Nat) : Int))))), .ref so]) ⟨hx, hb, hml, hown, hts⟩ (c_X2_letDownOf l D T h0 h1 Z ve (lk_fill Z k lev (lk_pump (-(Z 0) + ((j : Nat) : Int)))) (lk_want Z (-(Z 0) + ((j : Nat) : Int))) hV (by omega) (by omega)) ⟨va_cnB 2 hts gX5_leastWithTheMost_X2_letDownOf_n77 rfl rfl rfl (kn_RX5_77 hK) w2 (by decide +kernel) ⟨Nat.le_of_ble_eq_true rfl, Nat.le_of_ble_eq_true rfl⟩, w10, w11⟩ (kPc.v hK (va_recv hK.1 hP (ci := 2) (q0 := 4) rfl rfl) (kcut hP [4, 5] rfl)) rfl rfl hl.1 rfl (lv_room (Nat.le_of_ble_eq_true rfl)) dX5_leastWithTheMost_69 ⟨Nat.zero_le _, Nat.zero_le _⟩) (fun r8 hr8 => ?_)
    subst hr8
    refine kc_i (va_runV (As := [.int (iz (lk_fill Z k lev (lk_pump (-(Z 0) + ((j : Nat) : Int))))), .int (iz (lk_down Z (lk_fill Z k lev (lk_pump (-(Z 0) + ((j : Nat) : Int)))) (lk_want Z (-(Z 0) + ((j : Nat) : Int)))))]) (rest := []) ⟨hx, hb, hml, hown, hts⟩ (c_X5_mostWith l D T so mo ga pla ea ah ia fo sv h0 Ea Ah (lk_fill Z k lev (lk_pump (-(Z 0) + ((j : Nat) : Int)))) (lk_down Z (lk_fill Z k lev (lk_pump (-(Z 0) + ((j : Nat) : Int)))) (lk_want Z (-(Z 0) + ((j : Nat) : Int)))) (by omega) (by omega) hea hah) (cwV 2 hts gX5_leastWithTheMost_X5_mostWith rfl rfl rfl (by decide +kernel) ⟨Nat.le_of_ble_eq_true rfl, Nat.le_of_ble_eq_true rfl⟩) (kPc.v hK (va_recv hK.1 hP (ci := 5) (q0 := 0) rfl rfl) (kcut hP [0, 2, 3] rfl)) rfl rfl hl.1 rfl (lv_room (Nat.le_of_ble_eq_true rfl)) dX5_leastWithTheMost_72 ⟨Nat.zero_le _, Nat.zero_le _⟩) (fun r9 hr9 => ?_)
    subst hr9
    refine lv_istore (lv' := [(7, .int (iz (mwF Ah Ea (lk_fill Z k lev (lk_pump (-(Z 0) + ((j : Nat) : Int)))) (lk_down Z (lk_fill Z k lev (lk_pump (-(Z 0) + ((j : Nat) : Int)))) (lk_want Z (-(Z 0) + ((j : Nat) : Int))))))), (6, .int (iz (lk_fill Z k lev (lk_pump (-(Z 0) + ((j : Nat) : Int)))))), (5, .int (iz (lk_pump (-(Z 0) + ((j : Nat) : Int))))), (0, .ref so), (1, .int (iz (((k : Nat) : Int)))), (2, .int (iz (lev))), (3, .int (iz (M k lev.toNat))), (4, .int (iz (-(Z 0) + ((j : Nat) : Int))))]) hx hb dX5_leastWithTheMost_75 hl (by decide) rfl (fun ls hl => ?_)
    refine lv_iload hx hb dX5_leastWithTheMost_77 (lv_at hl 0 rfl) ?_
    refine lv_ldc (v := (-1000000000 : Int32)) hx hb hown w12 dX5_leastWithTheMost_79 ?_
    refine W.eq (g2 := F0 m 81 ls (.int (iz (-1000000000)) :: [.int (iz (mwF Ah Ea (lk_fill Z k lev (lk_pump (-(Z 0) + ((j : Nat) : Int)))) (lk_down Z (lk_fill Z k lev (lk_pump (-(Z 0) + ((j : Nat) : Int)))) (lk_want Z (-(Z 0) + ((j : Nat) : Int))))))])) (by rw [show iz (-1000000000) = (-1000000000 : Int32) from by decide]) ?_
    refine kz_icmp_eq (tgt := 105) hx hb dX5_leastWithTheMost_81 (by decide) (by omega) (by omega) (fun c81 => ?_) (fun c81 => ?_)
    · refine kz_iinc (b := (-(Z 0) + ((j : Nat) : Int)) + 1) (lv' := [(4, .int (iz ((-(Z 0) + ((j : Nat) : Int)) + 1))), (7, .int (iz (mwF Ah Ea (lk_fill Z k lev (lk_pump (-(Z 0) + ((j : Nat) : Int)))) (lk_down Z (lk_fill Z k lev (lk_pump (-(Z 0) + ((j : Nat) : Int)))) (lk_want Z (-(Z 0) + ((j : Nat) : Int))))))), (6, .int (iz (lk_fill Z k lev (lk_pump (-(Z 0) + ((j : Nat) : Int)))))), (5, .int (iz (lk_pump (-(Z 0) + ((j : Nat) : Int))))), (0, .ref so), (1, .int (iz (((k : Nat) : Int)))), (2, .int (iz (lev))), (3, .int (iz (M k lev.toNat)))]) hx hb dX5_leastWithTheMost_105 hl (k := 7) rfl (by omega) (by decide) rfl (fun ls hl => ?_)
      refine lv_goto (tgt := 18) hx hb dX5_leastWithTheMost_108 (by decide) ?_
      have hl : lv_has ls 8 [(4, .int (iz (-(Z 0) + ((j + 1 : Nat) : Int)))), (7, .int (iz (mwF Ah Ea (lk_fill Z k lev (lk_pump (-(Z 0) + ((j : Nat) : Int)))) (lk_down Z (lk_fill Z k lev (lk_pump (-(Z 0) + ((j : Nat) : Int)))) (lk_want Z (-(Z 0) + ((j : Nat) : Int))))))), (6, .int (iz (lk_fill Z k lev (lk_pump (-(Z 0) + ((j : Nat) : Int)))))), (5, .int (iz (lk_pump (-(Z 0) + ((j : Nat) : Int))))), (0, .ref so), (1, .int (iz (((k : Nat) : Int)))), (2, .int (iz (lev))), (3, .int (iz (M k lev.toNat)))] := by rw [← (show ((-(Z 0) + ((j : Nat) : Int)) + 1 : Int) = -(Z 0) + ((j + 1 : Nat) : Int) from (by omega))]; exact hl
      exact ih18 (j + 1) _ ⟨(by omega), (by rw [hf, show (Z 0 + Z 1).toNat - j = ((Z 0 + Z 1).toNat - (j + 1)) + 1 by omega]; show (if lvF Z Ah Ea k lev _ ≠ -1000000000 ∧ _ then _ else _) = _; unfold lvF; rw [if_neg (by omega), show -(Z 0) + ((j + 1 : Nat) : Int) = -(Z 0) + (j : Int) + 1 by omega]), lv_sub hl [4, 5, 6, 7, 0] rfl⟩ (by omega)
    · refine lv_iload hx hb dX5_leastWithTheMost_84 (lv_at hl 0 rfl) ?_
      refine lv_iload hx hb dX5_leastWithTheMost_86 (lv_at hl 2 rfl) ?_
      refine lv_aload_n hx hb dX5_leastWithTheMost_88 rfl (lv_at hl 3 rfl) ?_
      refine va_get (D := D) (ci := 5) (C := RX5) (T := TX5) (N := 9) hx hb hts w1 hown hK.1 hP 0 rfl rfl 0 (by decide) w0 (fun _ h9 => h9) rfl dX5_leastWithTheMost_89 ?_
      refine lv_iload_n hx hb dX5_leastWithTheMost_92 rfl (lv_at hl 4 rfl) ?_
      refine kc_i (va_runVN (As := [.int (iz (((k : Nat) : Int)))]) (rest := [.int (iz (lk_pump (-(Z 0) + ((j : Nat) : Int)))), .int (iz (mwF Ah Ea (lk_fill Z k lev (lk_pump (-(Z 0) + ((j : Nat) : Int)))) (lk_down Z (lk_fill Z k lev (lk_pump (-(Z 0) + ((j : Nat) : Int)))) (lk_want Z (-(Z 0) + ((j : Nat) : Int))))))]) ⟨hx, hb, hml, hown, hts⟩ (c_X2_priceOf l D T h0 h1 Z ve k (by omega)) ⟨va_cnB 1 hts gX5_leastWithTheMost_X2_priceOf_n92 rfl rfl rfl (kn_RX5_92 hK) w2 (by decide +kernel) ⟨Nat.le_of_ble_eq_true rfl, Nat.le_of_ble_eq_true rfl⟩, w13, w14⟩ (kPc.v hK (va_recv hK.1 hP (ci := 2) (q0 := 4) rfl rfl) (kcut hP [4, 5] rfl)) rfl rfl hl.1 rfl (lv_room (Nat.le_of_ble_eq_true rfl)) dX5_leastWithTheMost_93 ⟨Nat.zero_le _, Nat.zero_le _⟩) (fun r10 hr10 => ?_)
      subst hr10
      refine kz_mul hx hb dX5_leastWithTheMost_96 ?_
      refine kz_sub hx hb dX5_leastWithTheMost_97 ?_
      refine lv_iload_n hx hb dX5_leastWithTheMost_98 rfl (lv_at hl 6 rfl) ?_
      refine kz_icmp_ne (tgt := 105) hx hb dX5_leastWithTheMost_99 (by decide) (by omega) (by omega) (fun c99 => ?_) (fun c99 => ?_)
      · refine kz_iinc (b := (-(Z 0) + ((j : Nat) : Int)) + 1) (lv' := [(4, .int (iz ((-(Z 0) + ((j : Nat) : Int)) + 1))), (7, .int (iz (mwF Ah Ea (lk_fill Z k lev (lk_pump (-(Z 0) + ((j : Nat) : Int)))) (lk_down Z (lk_fill Z k lev (lk_pump (-(Z 0) + ((j : Nat) : Int)))) (lk_want Z (-(Z 0) + ((j : Nat) : Int))))))), (6, .int (iz (lk_fill Z k lev (lk_pump (-(Z 0) + ((j : Nat) : Int)))))), (5, .int (iz (lk_pump (-(Z 0) + ((j : Nat) : Int))))), (0, .ref so), (1, .int (iz (((k : Nat) : Int)))), (2, .int (iz (lev))), (3, .int (iz (M k lev.toNat)))]) hx hb dX5_leastWithTheMost_105 hl (k := 7) rfl (by omega) (by decide) rfl (fun ls hl => ?_)
        refine lv_goto (tgt := 18) hx hb dX5_leastWithTheMost_108 (by decide) ?_
        have hl : lv_has ls 8 [(4, .int (iz (-(Z 0) + ((j + 1 : Nat) : Int)))), (7, .int (iz (mwF Ah Ea (lk_fill Z k lev (lk_pump (-(Z 0) + ((j : Nat) : Int)))) (lk_down Z (lk_fill Z k lev (lk_pump (-(Z 0) + ((j : Nat) : Int)))) (lk_want Z (-(Z 0) + ((j : Nat) : Int))))))), (6, .int (iz (lk_fill Z k lev (lk_pump (-(Z 0) + ((j : Nat) : Int)))))), (5, .int (iz (lk_pump (-(Z 0) + ((j : Nat) : Int))))), (0, .ref so), (1, .int (iz (((k : Nat) : Int)))), (2, .int (iz (lev))), (3, .int (iz (M k lev.toNat)))] := by rw [← (show ((-(Z 0) + ((j : Nat) : Int)) + 1 : Int) = -(Z 0) + ((j + 1 : Nat) : Int) from (by omega))]; exact hl
        exact ih18 (j + 1) _ ⟨(by omega), (by rw [hf, show (Z 0 + Z 1).toNat - j = ((Z 0 + Z 1).toNat - (j + 1)) + 1 by omega]; show (if lvF Z Ah Ea k lev _ ≠ -1000000000 ∧ _ then _ else _) = _; unfold lvF; rw [if_neg (by omega), show -(Z 0) + ((j + 1 : Nat) : Int) = -(Z 0) + (j : Int) + 1 by omega]), lv_sub hl [4, 5, 6, 7, 0] rfl⟩ (by omega)
      · refine lv_iload hx hb dX5_leastWithTheMost_102 (lv_at hl 7 rfl) ?_
        exact W.iret hx hb hr (fun t ht _ => ⟨_, rfl, (congrArg iz (by rw [hf, show (Z 0 + Z 1).toNat - j = ((Z 0 + Z 1).toNat - (j + 1)) + 1 by omega]; show _ = (if lvF Z Ah Ea k lev _ ≠ -1000000000 ∧ _ then _ else _); unfold lvF; rw [if_pos (by omega)])), ht⟩) (fun _ h => absurd h List.not_mem_nil) dX5_leastWithTheMost_104
