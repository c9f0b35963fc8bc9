set_option maxHeartbeats 4000000 in
set_option maxRecDepth 100000 in
theorem c_X5_solveHour (l : Launch) (D : va_G) (T : Nat → ClassId) (sz : Nat) (so : Nat) (mo : Nat) (ga : Nat) (pla : Nat) (ea : Nat) (ah : Nat) (ia : Nat) (fo : Int) (sv : Int) (h0 : Nat) (h1 : Nat) (Z : Nat → Int) (ve : Int) (Ga : Nat → Int) (Ea : Nat → Int) (Ah : Nat → Int) (Id : Nat → Int) (rw : Nat → Nat) (M : Nat → Nat → Int) (k : Nat) (hk : k < 24) (hV : VL Z) (hM : MS Z M (k + 1)) (hGa : ∀ r : Nat, r < 31 → Ga r = gaF Z r) (hEa : ∀ r : Nat, r < 31 → Ea r = eaF Z k r) (hAh : ∀ r : Nat, r < 330 → Ah r = ahF Z M k r) (hId : ∀ r : Nat, r < 330 → Id r = idF Z Ah Ea r) : Met l yX5_solveHour wsX5_solveHour ({ frames := 2, cells := 0, slots := 0, locals := 47 }) (kPc D T [.ref so, .int (iz (((k : Nat) : Int)))] (kW D sz ([(so, .inr (5, [.ref h0, .ref mo, .ref ga, .ref pla, .int (iz (fo)), .int (iz (sv)), .ref ea, .ref ah, .ref ia])), (mo, .inl (T 1, 25, .inr (.inr (.inr (.inr (fun i => some (rw i))))))), (ga, .inl (T 0, 31, .inl (zA Ga))), (ea, .inl (T 0, 31, .inl (zA Ea))), (ah, .inl (T 0, 330, .inl (zA Ah))), (ia, .inl (T 0, 330, .inl (zA Id))), (h0, .inr (2, [.ref h1, .int (iz (ve))])), (h1, .inl (T 0, 115, .inl (zA Z)))] ++ kRows T rw 25 201 M))) (va_Qv (fun (u : Unit) => True) (fun (u : Unit) (t : State) => va_P D vwCl ([(so, .inr (5, [.ref h0, .ref mo, .ref ga, .ref pla, .int (iz (fo)), .int (iz (sv)), .ref ea, .ref ah, .ref ia])), (mo, .inl (T 1, 25, .inr (.inr (.inr (.inr (fun i => some (rw i))))))), (ga, .inl (T 0, 31, .inl (zA Ga))), (ea, .inl (T 0, 31, .inl (zA Ea))), (ah, .inl (T 0, 330, .inl (zA Ah))), (ia, .inl (T 0, 330, .inl (zA Id))), (h0, .inr (2, [.ref h1, .int (iz (ve))])), (h1, .inl (T 0, 115, .inl (zA Z)))] ++ kRows T rw 25 201 (gup M k (rwF Z k (M k)))) t.heap) (va_A ([(so, .inr (5, [.ref h0, .ref mo, .ref ga, .ref pla, .int (iz (fo)), .int (iz (sv)), .ref ea, .ref ah, .ref ia])), (mo, .inl (T 1, 25, .inr (.inr (.inr (.inr (fun i => some (rw i))))))), (ga, .inl (T 0, 31, .inl (zA Ga))), (ea, .inl (T 0, 31, .inl (zA Ea))), (ah, .inl (T 0, 330, .inl (zA Ah))), (ia, .inl (T 0, 330, .inl (zA Id))), (h0, .inr (2, [.ref h1, .int (iz (ve))])), (h1, .inl (T 0, 115, .inl (zA Z)))] ++ kRows T rw 25 201 M) sz)) 0 0 (va_A ([(so, .inr (5, [.ref h0, .ref mo, .ref ga, .ref pla, .int (iz (fo)), .int (iz (sv)), .ref ea, .ref ah, .ref ia])), (mo, .inl (T 1, 25, .inr (.inr (.inr (.inr (fun i => some (rw i))))))), (ga, .inl (T 0, 31, .inl (zA Ga))), (ea, .inl (T 0, 31, .inl (zA Ea))), (ah, .inl (T 0, 330, .inl (zA Ah))), (ia, .inl (T 0, 330, .inl (zA Id))), (h0, .inr (2, [.ref h1, .int (iz (ve))])), (h1, .inl (T 0, 115, .inl (zA Z)))] ++ kRows T rw 25 201 M) sz) := by
  refine Met.ofW (cc := cX5_solveHour) (maxL := 6) (ret := none) (by decide) rfl ?_
  intro p e s m args below meth c s₁ B hml hv
  obtain ⟨rfl, hK, hsz, hP, hD0⟩ := hv
  have hx := B.exec
  have hb := B.bytes
  have hr := B.returns
  have hts := atoms_spec (ws := wsX5_solveHour) B.pre
  have hown : s.vm.findClass RX5 = some m.cls := findClass_of_methodNamed B.named
  have hlocks := B.notSynchronized
  have w0 := hts (.initialized RX6) (List.mem_of_getElem? (i := 11) rfl)
  have w1 := hts (.static yX6_isHour) (List.mem_of_getElem? (i := 10) rfl)
  have w2 := hts (.fieldLink RX5 40 "LakePlant$Search" "lake" "LLakePlant$Lake;") (List.mem_of_getElem? (i := 1) rfl)
  have w3 : ∀ w ∈ wsX50, w ∈ wsX5_solveHour := by decide +kernel
  have w4 := hts (.initialized RX2) (List.mem_of_getElem? (i := 14) rfl)
  have w5 := hts (.instanceMethod yX2_settingOf) (List.mem_of_getElem? (i := 13) rfl)
  have w6 := hts (.selects RX2 yX2_settingOf yX2_settingOf) (List.mem_of_getElem? (i := 15) rfl)
  have w7 := hts (.methodLink RX5 87 Lib.Math.min.name) (List.mem_of_getElem? (i := 2) rfl)
  have w8 := hts (.static Lib.Math.min.name) (List.mem_of_getElem? (i := 3) rfl)
  have w9 := hts (.initialized "java/lang/Math") (List.mem_of_getElem? (i := 4) rfl)
  have w10 := hts (.code Lib.Math.min.name Lib.Math.min.code 2 (some .int)) (List.mem_of_getElem? (i := 5) rfl)
  have w11 := hts (.instanceMethod yX2_priceOf) (List.mem_of_getElem? (i := 18) rfl)
  have w12 := hts (.selects RX2 yX2_priceOf yX2_priceOf) (List.mem_of_getElem? (i := 19) rfl)
  have w13 := hts (.instanceMethod yX2_inflowOf) (List.mem_of_getElem? (i := 21) rfl)
  have w14 := hts (.selects RX2 yX2_inflowOf yX2_inflowOf) (List.mem_of_getElem? (i := 22) rfl)
  have w15 := hts (.fieldLink RX5 11 "LakePlant$Search" "most" "[[I") (List.mem_of_getElem? (i := 6) rfl)
  have w16 := hts (.methodLink RX5 104 Lib.Math.max.name) (List.mem_of_getElem? (i := 7) rfl)
  have w17 := hts (.static Lib.Math.max.name) (List.mem_of_getElem? (i := 8) rfl)
  have w18 := hts (.code Lib.Math.max.name Lib.Math.max.code 2 (some .int)) (List.mem_of_getElem? (i := 9) rfl)
  subst hsz
  have hD := hD0.self (sz := s.heap.size)
  generalize hAe : va_A ([(so, .inr (5, [.ref h0, .ref mo, .ref ga, .ref pla, .int (iz (fo)), .int (iz (sv)), .ref ea, .ref ah, .ref ia])), (mo, .inl (T 1, 25, .inr (.inr (.inr (.inr (fun i => some (rw i))))))), (ga, .inl (T 0, 31, .inl (zA Ga))), (ea, .inl (T 0, 31, .inl (zA Ea))), (ah, .inl (T 0, 330, .inl (zA Ah))), (ia, .inl (T 0, 330, .inl (zA Id))), (h0, .inr (2, [.ref h1, .int (iz (ve))])), (h1, .inl (T 0, 115, .inl (zA Z)))] ++ kRows T rw 25 201 M) s.heap.size = A at hD ⊢
  have hA : ∀ q : Nat, s.heap.size ≤ q → A q := fun q h => by rw [← hAe]; exact Or.inr h
  have hS : va_S A s.heap s.heap [] := va_S.rf
  have hP : va_P D vwCl ([(so, .inr (5, [.ref h0, .ref mo, .ref ga, .ref pla, .int (iz (fo)), .int (iz (sv)), .ref ea, .ref ah, .ref ia])), (mo, .inl (T 1, 25, .inr (.inr (.inr (.inr (fun i => some (rw i))))))), (ga, .inl (T 0, 31, .inl (zA Ga))), (ea, .inl (T 0, 31, .inl (zA Ea))), (ah, .inl (T 0, 330, .inl (zA Ah))), (ia, .inl (T 0, 330, .inl (zA Id))), (h0, .inr (2, [.ref h1, .int (iz (ve))])), (h1, .inl (T 0, 115, .inl (zA Z)))] ++ kRows T rw 25 201 M) s.heap := hP
  have hl := lv_entry ([.ref so, .int (iz (((k : Nat) : Int)))]) (n := 6) (Nat.le_of_ble_eq_true rfl)
  rw [lg_entry_eq]
  generalize (lg_sl ([.ref so, .int (iz (((k : Nat) : Int)))]) ++ List.replicate (6 - (lg_sl ([.ref so, .int (iz (((k : Nat) : Int)))])).length) Slot.unset).toArray = ls at hl ⊢
  have hl : lv_has ls 6 [(0, .ref so), (1, .int (iz (((k : Nat) : Int))))] := hl
  have hs := hV.1
  unfold VS at hs
  have hin0 := (hV.2.1 k hk).2.1
  have hpr := (hV.2.1 k hk).1
  have hga : ∀ r : Nat, r < 31 → -1000 ≤ Ga r ∧ Ga r ≤ 1000 := fun r hr => by rw [hGa r hr]; have := lk_loss_rng hV (p := (r : Int)) (by omega); unfold gaF; omega
  have hea : ∀ r : Nat, r < 31 → -200000 ≤ Ea r ∧ Ea r ≤ 200000 := fun r hr => by rw [hEa r hr]; exact eaF_rng hV hk r hr
  have hah : ∀ r : Nat, r < 330 → -1000000000 ≤ Ah r ∧ Ah r ≤ 1000000000 := fun r hr => by rw [hAh r hr]; exact ahF_rng hV (fun r q => hM.rng hV (Nat.le_refl _) (by omega) (by omega) (Or.inr (Or.inr q))) r
  have hia : ∀ r : Nat, r < 330 → -1000200000 ≤ Id r ∧ Id r ≤ 1000200000 := fun r hr => by rw [hId r hr]; exact mwF_rng hah hea
  refine lv_iload_n hx hb dX5_solveHour_0 rfl (lv_at hl 1 rfl) ?_
  refine kc_i (va_runSN (As := [.int (iz (((k : Nat) : Int)))]) (rest := []) ⟨hx, hb, hml, hown, hts⟩ (c_X6_isHour l D T ((k : Nat) : Int) (by omega)) ⟨va_cnB 1 hts gX5_solveHour_X6_isHour_n83 rfl rfl rfl (kn_RX5_83 hK) w0 (by decide +kernel) ⟨Nat.le_of_ble_eq_true rfl, Nat.le_of_ble_eq_true rfl⟩, w1, trivial⟩ (kPc.s hK (kcut hP [] rfl)) rfl rfl hl.1 rfl (lv_room (Nat.le_of_ble_eq_true rfl)) dX5_solveHour_1 ⟨Nat.zero_le _, Nat.zero_le _⟩) (fun r1 hr1 => ?_)
  subst hr1
  refine kz_if_ne (tgt := 8) hx hb dX5_solveHour_4 (by decide) (by omega) (fun c4 => ?_) (fun c4 => False.elim (by omega))
  refine kz_join (pcj := 33) (P := fun tp => tp = if k = 0 then 200 else min (Z 6) 200) (rest := []) (ls := ls) (fun J33 => ?_) (fun tp etp => ?_)
  · refine lv_iload_n hx hb dX5_solveHour_8 rfl (lv_at hl 1 rfl) ?_
    refine kz_if_ne (tgt := 18) hx hb dX5_solveHour_9 (by decide) (by omega) (fun c9 => ?_) (fun c9 => ?_)
    · refine lv_aload_n hx hb dX5_solveHour_18 rfl (lv_at hl 0 rfl) ?_
      refine va_get (D := D) (ci := 5) (C := RX5) (T := TX5) (N := 9) hx hb hts w3 hown hK.1 hP 0 rfl rfl 0 (by decide) w2 (fun _ h9 => h9) rfl dX5_solveHour_19 ?_
      refine lv_bipush (v := iz (6)) hx hb dX5_solveHour_22 (by decide) ?_
      refine kz_top (y := ((6 : Nat) : Int)) rfl ?_
      refine kc_i (va_runVN (As := [.int (iz (((6 : Nat) : Int)))]) (rest := []) ⟨hx, hb, hml, hown, hts⟩ (c_X2_settingOf l D T h0 h1 Z ve 6 (by omega)) ⟨va_cnB 1 hts gX5_solveHour_X2_settingOf_n49 rfl rfl rfl (kn_RX5_49 hK) w4 (by decide +kernel) ⟨Nat.le_of_ble_eq_true rfl, Nat.le_of_ble_eq_true rfl⟩, w5, w6⟩ (kPc.v hK (va_recv hK.1 hP (ci := 2) (q0 := 6) rfl rfl) (kcut hP [6, 7] rfl)) rfl rfl hl.1 rfl (lv_room (Nat.le_of_ble_eq_true rfl)) dX5_solveHour_24 ⟨Nat.zero_le _, Nat.zero_le _⟩) (fun r2 hr2 => ?_)
      subst hr2
      refine lv_sipush (v := iz (200)) hx hb dX5_solveHour_27 (by decide) ?_
      refine kz_mmin hx hb (by rw [hml]; exact hl.1.symm) hown w7 w8 w9 w10 (Nat.le_of_ble_eq_true rfl) (Nat.le_of_ble_eq_true rfl) (Nat.zero_le _) (Nat.zero_le _) (by omega) (by omega) dX5_solveHour_30 ?_
      exact J33 (min (Z 6) 200) (by split <;> omega)
    · refine lv_sipush (v := iz (200)) hx hb dX5_solveHour_12 (by decide) ?_
      refine lv_goto (tgt := 33) hx hb dX5_solveHour_15 (by decide) ?_
      exact J33 (200) (by split <;> omega)
  · refine lv_istore_n (lv' := [(2, .int (iz (tp))), (0, .ref so), (1, .int (iz (((k : Nat) : Int))))]) hx hb dX5_solveHour_33 rfl hl (by decide) rfl (fun ls hl => ?_)
    have htp : 0 ≤ tp ∧ tp ≤ 200 := by rw [etp]; split <;> omega
    refine lv_aload_n hx hb dX5_solveHour_34 rfl (lv_at hl 1 rfl) ?_
    refine va_get (D := D) (ci := 5) (C := RX5) (T := TX5) (N := 9) hx hb hts w3 hown hK.1 hP 0 rfl rfl 0 (by decide) w2 (fun _ h9 => h9) rfl dX5_solveHour_35 ?_
    refine lv_iload_n hx hb dX5_solveHour_38 rfl (lv_at hl 2 rfl) ?_
    refine kc_i (va_runVN (As := [.int (iz (((k : Nat) : Int)))]) (rest := []) ⟨hx, hb, hml, hown, hts⟩ (c_X2_priceOf l D T h0 h1 Z ve k (by omega)) ⟨va_cnB 1 hts gX5_solveHour_X2_priceOf_n92 rfl rfl rfl (kn_RX5_92 hK) w4 (by decide +kernel) ⟨Nat.le_of_ble_eq_true rfl, Nat.le_of_ble_eq_true rfl⟩, w11, w12⟩ (kPc.v hK (va_recv hK.1 hP (ci := 2) (q0 := 6) rfl rfl) (kcut hP [6, 7] rfl)) rfl rfl hl.1 rfl (lv_room (Nat.le_of_ble_eq_true rfl)) dX5_solveHour_39 ⟨Nat.zero_le _, Nat.zero_le _⟩) (fun r3 hr3 => ?_)
    subst hr3
    refine lv_istore_n (lv' := [(3, .int (iz (Z (10 + k)))), (2, .int (iz (tp))), (0, .ref so), (1, .int (iz (((k : Nat) : Int))))]) hx hb dX5_solveHour_42 rfl hl (by decide) rfl (fun ls hl => ?_)
    refine lv_iconst (v := iz (0)) hx hb dX5_solveHour_43 (by decide) ?_
    refine lv_istore (lv' := [(4, .int (iz (0))), (3, .int (iz (Z (10 + k)))), (2, .int (iz (tp))), (0, .ref so), (1, .int (iz (((k : Nat) : Int))))]) hx hb dX5_solveHour_44 hl (by decide) rfl (fun ls hl => ?_)
    have hl : lv_has ls 6 [(4, .int (iz (((0 : Nat) : Int)))), (3, .int (iz (Z (10 + k)))), (2, .int (iz (tp))), (0, .ref so), (1, .int (iz (((k : Nat) : Int))))] := by rw [← (show (0 : Int) = ((0 : Nat) : Int) from (by first | rfl | omega))]; exact hl
    have hZ : (M : Nat → Nat → Int) = gup M k (zmix 0 (fun l : Nat => bv NOP Z (24 - k) (l : Int)) (M k)) := (gup_zmix0 _ _ _)
    have hP : va_P D vwCl ([(so, .inr (5, [.ref h0, .ref mo, .ref ga, .ref pla, .int (iz (fo)), .int (iz (sv)), .ref ea, .ref ah, .ref ia])), (mo, .inl (T 1, 25, .inr (.inr (.inr (.inr (fun i => some (rw i))))))), (ga, .inl (T 0, 31, .inl (zA Ga))), (ea, .inl (T 0, 31, .inl (zA Ea))), (ah, .inl (T 0, 330, .inl (zA Ah))), (ia, .inl (T 0, 330, .inl (zA Id))), (h0, .inr (2, [.ref h1, .int (iz (ve))])), (h1, .inl (T 0, 115, .inl (zA Z)))] ++ kRows T rw 25 201 (gup M k (zmix 0 (fun l : Nat => bv NOP Z (24 - k) (l : Int)) (M k)))) s.heap := by rw [← hZ]; exact hP
    have hD : va_D A ([(so, .inr (5, [.ref h0, .ref mo, .ref ga, .ref pla, .int (iz (fo)), .int (iz (sv)), .ref ea, .ref ah, .ref ia])), (mo, .inl (T 1, 25, .inr (.inr (.inr (.inr (fun i => some (rw i))))))), (ga, .inl (T 0, 31, .inl (zA Ga))), (ea, .inl (T 0, 31, .inl (zA Ea))), (ah, .inl (T 0, 330, .inl (zA Ah))), (ia, .inl (T 0, 330, .inl (zA Id))), (h0, .inr (2, [.ref h1, .int (iz (ve))])), (h1, .inl (T 0, 115, .inl (zA Z)))] ++ kRows T rw 25 201 (gup M k (zmix 0 (fun l : Nat => bv NOP Z (24 - k) (l : Int)) (M k)))) := by rw [← hZ]; exact hD
    refine kz_loopW1 (pc := 46) (I := fun (n : Nat) (H : Heap) (locs : List Loc) (ls : Array Slot) => ((n : Int) ≤ tp + 1) ∧ va_P D vwCl ([(so, .inr (5, [.ref h0, .ref mo, .ref ga, .ref pla, .int (iz (fo)), .int (iz (sv)), .ref ea, .ref ah, .ref ia])), (mo, .inl (T 1, 25, .inr (.inr (.inr (.inr (fun i => some (rw i))))))), (ga, .inl (T 0, 31, .inl (zA Ga))), (ea, .inl (T 0, 31, .inl (zA Ea))), (ah, .inl (T 0, 330, .inl (zA Ah))), (ia, .inl (T 0, 330, .inl (zA Id))), (h0, .inr (2, [.ref h1, .int (iz (ve))])), (h1, .inl (T 0, 115, .inl (zA Z)))] ++ kRows T rw 25 201 (gup M k (zmix n (fun l : Nat => bv NOP Z (24 - k) (l : Int)) (M k)))) H ∧ va_D A ([(so, .inr (5, [.ref h0, .ref mo, .ref ga, .ref pla, .int (iz (fo)), .int (iz (sv)), .ref ea, .ref ah, .ref ia])), (mo, .inl (T 1, 25, .inr (.inr (.inr (.inr (fun i => some (rw i))))))), (ga, .inl (T 0, 31, .inl (zA Ga))), (ea, .inl (T 0, 31, .inl (zA Ea))), (ah, .inl (T 0, 330, .inl (zA Ah))), (ia, .inl (T 0, 330, .inl (zA Id))), (h0, .inr (2, [.ref h1, .int (iz (ve))])), (h1, .inl (T 0, 115, .inl (zA Z)))] ++ kRows T rw 25 201 (gup M k (zmix n (fun l : Nat => bv NOP Z (24 - k) (l : Int)) (M k)))) ∧ va_S A s.heap H locs ∧ lv_has ls 6 [(0, .ref so), (1, .int (iz (((k : Nat) : Int)))), (2, .int (iz (tp))), (3, .int (iz (Z (10 + k)))), (4, .int (iz (((n : Nat) : Int))))]) (μ := fun (n : Nat) => 201 - n) 0 ⟨(by omega), hP, hD, hS, lv_sub hl [3, 4, 2, 1, 0] rfl⟩ ?_
    rintro n H locs ls ⟨hn, hP, hD, hS, hl⟩ ih46
    have hmp := mpF_rng (I := Id) (G := Ga) (f := ((n : Nat) : Int) + Z (34 + k)) hia hpr (Z 0 + 1).toNat (by omega)
    have hmd := mdF_rng (Z := Z) (f := ((n : Nat) : Int) + Z (34 + k)) hah hea (min (Z 1) (((n : Nat) : Int) + Z (34 + k) - Z 5)).toNat (by omega)
    refine lv_iload hx hb dX5_solveHour_46 (lv_at hl 4 rfl) ?_
    refine lv_iload_n hx hb dX5_solveHour_48 rfl (lv_at hl 2 rfl) ?_
    refine kz_icmp_gt (tgt := 96) hx hb dX5_solveHour_49 (by decide) (by omega) (by omega) (fun c49 => ?_) (fun c49 => ?_)
    · have hnn : (n : Int) = tp + 1 := by omega
      have hZ : (gup M k (zmix n (fun l : Nat => bv NOP Z (24 - k) (l : Int)) (M k)) : Nat → Nat → Int) = gup M k (rwF Z k (M k)) := (by unfold rwF; rw [← etp, ← hnn]; rfl)
      have hP : va_P D vwCl ([(so, .inr (5, [.ref h0, .ref mo, .ref ga, .ref pla, .int (iz (fo)), .int (iz (sv)), .ref ea, .ref ah, .ref ia])), (mo, .inl (T 1, 25, .inr (.inr (.inr (.inr (fun i => some (rw i))))))), (ga, .inl (T 0, 31, .inl (zA Ga))), (ea, .inl (T 0, 31, .inl (zA Ea))), (ah, .inl (T 0, 330, .inl (zA Ah))), (ia, .inl (T 0, 330, .inl (zA Id))), (h0, .inr (2, [.ref h1, .int (iz (ve))])), (h1, .inl (T 0, 115, .inl (zA Z)))] ++ kRows T rw 25 201 (gup M k (rwF Z k (M k)))) H := by rw [← hZ]; exact hP
      exact W.vret hx hb hr (fun t ht hW => ⟨⟨(), rfl, trivial, by show va_P _ _ _ t.heap; rw [ht]; exact hP⟩, hS.F ht⟩) hS.2.2 dX5_solveHour_96
    · refine lv_iload hx hb dX5_solveHour_52 (lv_at hl 4 rfl) ?_
      refine lv_aload_n hx hb dX5_solveHour_54 rfl (lv_at hl 0 rfl) ?_
      refine va_get (D := D) (ci := 5) (C := RX5) (T := TX5) (N := 9) hx hb hts w3 hown hK.1 hP 0 rfl rfl 0 (by decide) w2 (fun _ h9 => h9) rfl dX5_solveHour_55 ?_
      refine lv_iload_n hx hb dX5_solveHour_58 rfl (lv_at hl 1 rfl) ?_
      refine kc_i (va_runVN (As := [.int (iz (((k : Nat) : Int)))]) (rest := [.int (iz (((n : Nat) : Int)))]) ⟨hx, hb, hml, hown, hts⟩ (c_X2_inflowOf l D T h0 h1 Z ve k (by omega)) ⟨va_cnB 1 hts gX5_solveHour_X2_inflowOf_n95 rfl rfl rfl (kn_RX5_95 hK) w4 (by decide +kernel) ⟨Nat.le_of_ble_eq_true rfl, Nat.le_of_ble_eq_true rfl⟩, w13, w14⟩ (kPc.v hK (va_recv hK.1 hP (ci := 2) (q0 := 6) rfl rfl) (kcut hP [6, 7] rfl)) rfl rfl hl.1 rfl (lv_room (Nat.le_of_ble_eq_true rfl)) dX5_solveHour_59 ⟨Nat.zero_le _, Nat.zero_le _⟩) (fun r4 hr4 => ?_)
      subst hr4
      refine kz_add hx hb dX5_solveHour_62 ?_
      refine lv_istore (lv' := [(5, .int (iz (((n : Nat) : Int) + (Z (34 + k))))), (0, .ref so), (1, .int (iz (((k : Nat) : Int)))), (2, .int (iz (tp))), (3, .int (iz (Z (10 + k)))), (4, .int (iz (((n : Nat) : Int))))]) hx hb dX5_solveHour_63 hl (by decide) rfl (fun ls hl => ?_)
      refine lv_aload_n hx hb dX5_solveHour_65 rfl (lv_at hl 1 rfl) ?_
      refine va_get (D := D) (ci := 5) (C := RX5) (T := TX5) (N := 9) hx hb hts w3 hown hK.1 hP 0 rfl rfl 1 (by decide) w15 (fun _ h9 => h9) rfl dX5_solveHour_66 ?_
      refine lv_iload_n hx hb dX5_solveHour_69 rfl (lv_at hl 2 rfl) ?_
      refine kz_aald hx hb hK hP 1 rfl (k) (by omega) (by omega) (by omega) (y := rw k) rfl dX5_solveHour_70 ?_
      refine lv_iload hx hb dX5_solveHour_71 (lv_at hl 5 rfl) ?_
      refine lv_aload_n hx hb dX5_solveHour_73 rfl (lv_at hl 1 rfl) ?_
      refine lv_iload hx hb dX5_solveHour_74 (lv_at hl 0 rfl) ?_
      refine lv_iload_n hx hb dX5_solveHour_76 rfl (lv_at hl 4 rfl) ?_
      refine kc_i (va_runV (As := [.int (iz (((n : Nat) : Int) + (Z (34 + k)))), .int (iz (Z (10 + k)))]) (rest := [.int (iz (((n : Nat) : Int))), .ref (rw k)]) ⟨hx, hb, hml, hown, hts⟩ (c_X5_mostByPumping l D T so mo ga pla ea ah ia fo sv h0 h1 Z ve Ga Id (((n : Nat) : Int) + (Z (34 + k))) (Z (10 + k)) hV (by omega) (by omega) hga hia) (cwV 2 hts gX5_solveHour_X5_mostByPumping rfl rfl rfl (by decide +kernel) ⟨Nat.le_of_ble_eq_true rfl, Nat.le_of_ble_eq_true rfl⟩) (kPc.v hK (va_recv hK.1 hP (ci := 5) (q0 := 0) rfl rfl) (kcut hP [0, 2, 5, 6, 7] rfl)) rfl rfl hl.1 rfl (lv_room (Nat.le_of_ble_eq_true rfl)) dX5_solveHour_77 ⟨Nat.zero_le _, Nat.zero_le _⟩) (fun r5 hr5 => ?_)
      subst hr5
      refine lv_aload_n hx hb dX5_solveHour_80 rfl (lv_at hl 1 rfl) ?_
      refine lv_iload hx hb dX5_solveHour_81 (lv_at hl 0 rfl) ?_
      refine kc_i (va_runV (As := [.int (iz (((n : Nat) : Int) + (Z (34 + k))))]) (rest := [.int (iz (mpF Id Ga (((n : Nat) : Int) + (Z (34 + k))) (Z (10 + k)) ((Z 0) + 1).toNat)), .int (iz (((n : Nat) : Int))), .ref (rw k)]) ⟨hx, hb, hml, hown, hts⟩ (c_X5_mostByLettingDown l D T so mo ga pla ea ah ia fo sv h0 h1 Z ve Ea Ah (((n : Nat) : Int) + (Z (34 + k))) hV (by omega) hea hah) (cwV 1 hts gX5_solveHour_X5_mostByLettingDown rfl rfl rfl (by decide +kernel) ⟨Nat.le_of_ble_eq_true rfl, Nat.le_of_ble_eq_true rfl⟩) (kPc.v hK (va_recv hK.1 hP (ci := 5) (q0 := 0) rfl rfl) (kcut hP [0, 3, 4, 6, 7] rfl)) rfl rfl hl.1 rfl (lv_room (Nat.le_of_ble_eq_true rfl)) dX5_solveHour_83 ⟨Nat.zero_le _, Nat.zero_le _⟩) (fun r6 hr6 => ?_)
      subst hr6
      refine kz_mmax hx hb (by rw [hml]; exact hl.1.symm) hown w16 w17 w9 w18 (Nat.le_of_ble_eq_true rfl) (Nat.le_of_ble_eq_true rfl) (Nat.zero_le _) (Nat.zero_le _) (by omega) (by omega) dX5_solveHour_86 ?_
      refine kz_top (y := bv NOP Z (24 - k) ((n : Nat) : Int)) (row_eq hV hM hk hAh hEa hId hGa (by omega)) ?_
      refine kz_iast hx hb hK hP hD hS (8 + k) (kRows_get (X := [(so, .inr (5, [.ref h0, .ref mo, .ref ga, .ref pla, .int (iz (fo)), .int (iz (sv)), .ref ea, .ref ah, .ref ia])), (mo, .inl (T 1, 25, .inr (.inr (.inr (.inr (fun i => some (rw i))))))), (ga, .inl (T 0, 31, .inl (zA Ga))), (ea, .inl (T 0, 31, .inl (zA Ea))), (ah, .inl (T 0, 330, .inl (zA Ah))), (ia, .inl (T 0, 330, .inl (zA Id))), (h0, .inr (2, [.ref h1, .int (iz (ve))])), (h1, .inl (T 0, 115, .inl (zA Z)))]) (by omega)) (n) (by omega) (by omega) (by omega) dX5_solveHour_89 (fun H locs hP hD hS => ?_)
      have hP : va_P D vwCl ([(so, .inr (5, [.ref h0, .ref mo, .ref ga, .ref pla, .int (iz (fo)), .int (iz (sv)), .ref ea, .ref ah, .ref ia])), (mo, .inl (T 1, 25, .inr (.inr (.inr (.inr (fun i => some (rw i))))))), (ga, .inl (T 0, 31, .inl (zA Ga))), (ea, .inl (T 0, 31, .inl (zA Ea))), (ah, .inl (T 0, 330, .inl (zA Ah))), (ia, .inl (T 0, 330, .inl (zA Id))), (h0, .inr (2, [.ref h1, .int (iz (ve))])), (h1, .inl (T 0, 115, .inl (zA Z)))] ++ kRows T rw 25 201 (gup (gup M k (zmix n (fun l : Nat => bv NOP Z (24 - k) (l : Int)) (M k))) k (zup ((gup M k (zmix n (fun l : Nat => bv NOP Z (24 - k) (l : Int)) (M k))) k) n (bv NOP Z (24 - k) ((n : Nat) : Int))))) H := by rw [← kRows_set (X := [(so, .inr (5, [.ref h0, .ref mo, .ref ga, .ref pla, .int (iz (fo)), .int (iz (sv)), .ref ea, .ref ah, .ref ia])), (mo, .inl (T 1, 25, .inr (.inr (.inr (.inr (fun i => some (rw i))))))), (ga, .inl (T 0, 31, .inl (zA Ga))), (ea, .inl (T 0, 31, .inl (zA Ea))), (ah, .inl (T 0, 330, .inl (zA Ah))), (ia, .inl (T 0, 330, .inl (zA Id))), (h0, .inr (2, [.ref h1, .int (iz (ve))])), (h1, .inl (T 0, 115, .inl (zA Z)))])]; exact hP
      have hD : va_D A ([(so, .inr (5, [.ref h0, .ref mo, .ref ga, .ref pla, .int (iz (fo)), .int (iz (sv)), .ref ea, .ref ah, .ref ia])), (mo, .inl (T 1, 25, .inr (.inr (.inr (.inr (fun i => some (rw i))))))), (ga, .inl (T 0, 31, .inl (zA Ga))), (ea, .inl (T 0, 31, .inl (zA Ea))), (ah, .inl (T 0, 330, .inl (zA Ah))), (ia, .inl (T 0, 330, .inl (zA Id))), (h0, .inr (2, [.ref h1, .int (iz (ve))])), (h1, .inl (T 0, 115, .inl (zA Z)))] ++ kRows T rw 25 201 (gup (gup M k (zmix n (fun l : Nat => bv NOP Z (24 - k) (l : Int)) (M k))) k (zup ((gup M k (zmix n (fun l : Nat => bv NOP Z (24 - k) (l : Int)) (M k))) k) n (bv NOP Z (24 - k) ((n : Nat) : Int))))) := by rw [← kRows_set (X := [(so, .inr (5, [.ref h0, .ref mo, .ref ga, .ref pla, .int (iz (fo)), .int (iz (sv)), .ref ea, .ref ah, .ref ia])), (mo, .inl (T 1, 25, .inr (.inr (.inr (.inr (fun i => some (rw i))))))), (ga, .inl (T 0, 31, .inl (zA Ga))), (ea, .inl (T 0, 31, .inl (zA Ea))), (ah, .inl (T 0, 330, .inl (zA Ah))), (ia, .inl (T 0, 330, .inl (zA Id))), (h0, .inr (2, [.ref h1, .int (iz (ve))])), (h1, .inl (T 0, 115, .inl (zA Z)))])]; exact hD
      refine kz_iinc (b := ((n + 1 : Nat) : Int)) (lv' := [(4, .int (iz (((n + 1 : Nat) : Int)))), (5, .int (iz (((n : Nat) : Int) + (Z (34 + k))))), (0, .ref so), (1, .int (iz (((k : Nat) : Int)))), (2, .int (iz (tp))), (3, .int (iz (Z (10 + k))))]) hx hb dX5_solveHour_90 hl (k := 5) rfl (by omega) (by decide) rfl (fun ls hl => ?_)
      refine lv_goto (tgt := 46) hx hb dX5_solveHour_93 (by decide) ?_
      have hZ : (gup (gup M k (zmix n (fun l : Nat => bv NOP Z (24 - k) (l : Int)) (M k))) k (zup ((gup M k (zmix n (fun l : Nat => bv NOP Z (24 - k) (l : Int)) (M k))) k) n (bv NOP Z (24 - k) ((n : Nat) : Int))) : Nat → Nat → Int) = gup M k (zmix (n + 1) (fun l : Nat => bv NOP Z (24 - k) (l : Int)) (M k)) := (gup_zmix rfl)
      have hP : va_P D vwCl ([(so, .inr (5, [.ref h0, .ref mo, .ref ga, .ref pla, .int (iz (fo)), .int (iz (sv)), .ref ea, .ref ah, .ref ia])), (mo, .inl (T 1, 25, .inr (.inr (.inr (.inr (fun i => some (rw i))))))), (ga, .inl (T 0, 31, .inl (zA Ga))), (ea, .inl (T 0, 31, .inl (zA Ea))), (ah, .inl (T 0, 330, .inl (zA Ah))), (ia, .inl (T 0, 330, .inl (zA Id))), (h0, .inr (2, [.ref h1, .int (iz (ve))])), (h1, .inl (T 0, 115, .inl (zA Z)))] ++ kRows T rw 25 201 (gup M k (zmix (n + 1) (fun l : Nat => bv NOP Z (24 - k) (l : Int)) (M k)))) H := by rw [hZ] at hP; exact hP
      have hD : va_D A ([(so, .inr (5, [.ref h0, .ref mo, .ref ga, .ref pla, .int (iz (fo)), .int (iz (sv)), .ref ea, .ref ah, .ref ia])), (mo, .inl (T 1, 25, .inr (.inr (.inr (.inr (fun i => some (rw i))))))), (ga, .inl (T 0, 31, .inl (zA Ga))), (ea, .inl (T 0, 31, .inl (zA Ea))), (ah, .inl (T 0, 330, .inl (zA Ah))), (ia, .inl (T 0, 330, .inl (zA Id))), (h0, .inr (2, [.ref h1, .int (iz (ve))])), (h1, .inl (T 0, 115, .inl (zA Z)))] ++ kRows T rw 25 201 (gup M k (zmix (n + 1) (fun l : Nat => bv NOP Z (24 - k) (l : Int)) (M k)))) := by rw [hZ] at hD; exact hD
      exact ih46 (n + 1) _ _ _ ⟨(by omega), hP, hD, hS, lv_sub hl [2, 3, 4, 5, 0] rfl⟩ (by omega)
