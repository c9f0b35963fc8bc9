set_option maxHeartbeats 4000000 in
set_option maxRecDepth 100000 in
theorem c_X6_best2 (l : Launch) (D : va_G) (T : Nat → ClassId) (sz : Nat) (px : Nat) (hc : Nat) (so : Nat) (hp : Nat) (ho : Nat) (sl : Nat) (fl : Nat) (hh : Nat) (mo : Nat) (ga : Nat) (pla : Nat) (ea : Nat) (ah : Nat) (ia : Nat) (fo : Int) (sv : Int) (h0 : Nat) (h1 : Nat) (Z : Nat → Int) (ve : Int) (Ga : Nat → Int) (Pl : Nat → Int) (Ea : Nat → Int) (Ah : Nat → Int) (Id : Nat → Int) (rw : Nat → Nat) (M : Nat → Nat → Int) (hV : VL Z) (hve : 0 ≤ ve ∧ ve ≤ 1990000000) (hsi : SI Z ve M Pl fo sv) : Met l yX6_best wsX6_best ({ frames := 5, cells := 0, slots := 0, locals := 114 }) (kPc D T [.ref px] (kW D sz ([(px, .inr (6, [.ref h0, .ref hc, .ref so, .ref hp, .ref ho, .ref hh, .ref sl, .ref fl])), (so, .inr (5, [.ref h0, .ref mo, .ref ga, .ref pla, .int (iz (fo)), .int (iz (sv)), .ref ea, .ref ah, .ref ia])), (mo, .inl (T 1, 25, .inr (.inr (.inr (.inr (fun i => some (rw i))))))), (ga, .inl (T 0, 31, .inl (zA Ga))), (pla, .inl (T 0, 24, .inl (zA Pl))), (ea, .inl (T 0, 31, .inl (zA Ea))), (ah, .inl (T 0, 330, .inl (zA Ah))), (ia, .inl (T 0, 330, .inl (zA Id))), (h0, .inr (2, [.ref h1, .int (iz (ve))])), (h1, .inl (T 0, 115, .inl (zA Z)))] ++ kRows T rw 25 201 M))) (va_Qi (fun (r : Int32) (u : Int × (Nat → Int) × (Nat → Int) × (Nat → Int) × (Nat → Int) × (Nat → Int) × (Nat → Nat → Int) × Int) => r = iz (pl_best Z) ∧ SI Z ve u.2.2.2.2.2.2.1 u.2.1 u.1 u.2.2.2.2.2.2.2) (fun (u : Int × (Nat → Int) × (Nat → Int) × (Nat → Int) × (Nat → Int) × (Nat → Int) × (Nat → Nat → Int) × Int) (t : State) => va_P D vwCl ([(px, .inr (6, [.ref h0, .ref hc, .ref so, .ref hp, .ref ho, .ref hh, .ref sl, .ref fl])), (so, .inr (5, [.ref h0, .ref mo, .ref ga, .ref pla, .int (iz (u.1)), .int (iz (u.2.2.2.2.2.2.2)), .ref ea, .ref ah, .ref ia])), (mo, .inl (T 1, 25, .inr (.inr (.inr (.inr (fun i => some (rw i))))))), (ga, .inl (T 0, 31, .inl (zA u.2.2.1))), (pla, .inl (T 0, 24, .inl (zA u.2.1))), (ea, .inl (T 0, 31, .inl (zA u.2.2.2.1))), (ah, .inl (T 0, 330, .inl (zA u.2.2.2.2.1))), (ia, .inl (T 0, 330, .inl (zA u.2.2.2.2.2.1))), (h0, .inr (2, [.ref h1, .int (iz (ve))])), (h1, .inl (T 0, 115, .inl (zA Z)))] ++ kRows T rw 25 201 u.2.2.2.2.2.2.1) t.heap) (va_A ([(px, .inr (6, [.ref h0, .ref hc, .ref so, .ref hp, .ref ho, .ref hh, .ref sl, .ref fl])), (so, .inr (5, [.ref h0, .ref mo, .ref ga, .ref pla, .int (iz (fo)), .int (iz (sv)), .ref ea, .ref ah, .ref ia])), (mo, .inl (T 1, 25, .inr (.inr (.inr (.inr (fun i => some (rw i))))))), (ga, .inl (T 0, 31, .inl (zA Ga))), (pla, .inl (T 0, 24, .inl (zA Pl))), (ea, .inl (T 0, 31, .inl (zA Ea))), (ah, .inl (T 0, 330, .inl (zA Ah))), (ia, .inl (T 0, 330, .inl (zA Id))), (h0, .inr (2, [.ref h1, .int (iz (ve))])), (h1, .inl (T 0, 115, .inl (zA Z)))] ++ kRows T rw 25 201 M) sz)) 0 0 (va_A ([(px, .inr (6, [.ref h0, .ref hc, .ref so, .ref hp, .ref ho, .ref hh, .ref sl, .ref fl])), (so, .inr (5, [.ref h0, .ref mo, .ref ga, .ref pla, .int (iz (fo)), .int (iz (sv)), .ref ea, .ref ah, .ref ia])), (mo, .inl (T 1, 25, .inr (.inr (.inr (.inr (fun i => some (rw i))))))), (ga, .inl (T 0, 31, .inl (zA Ga))), (pla, .inl (T 0, 24, .inl (zA Pl))), (ea, .inl (T 0, 31, .inl (zA Ea))), (ah, .inl (T 0, 330, .inl (zA Ah))), (ia, .inl (T 0, 330, .inl (zA Id))), (h0, .inr (2, [.ref h1, .int (iz (ve))])), (h1, .inl (T 0, 115, .inl (zA Z)))] ++ kRows T rw 25 201 M) sz) := by
  refine Met.ofW (cc := cX6_best) (maxL := 2) (ret := (some .int)) (by decide) rfl ?_
  intro p e s m args below meth c s₁ B hml hv
  obtain ⟨rfl, hK, hsz, hP, hD0⟩ := hv
  have hx := B.exec
  have hb := B.bytes
  have hr := B.returns
  have hts := atoms_spec (ws := wsX6_best) B.pre
  have hown : s.vm.findClass RX6 = some m.cls := findClass_of_methodNamed B.named
  have hlocks := B.notSynchronized
  have w0 := hts (.fieldLink RX6 28 "LakePlant" "search" "LLakePlant$Search;") (List.mem_of_getElem? (i := 1) rfl)
  have w1 : ∀ w ∈ wsX60, w ∈ wsX6_best := by decide +kernel
  have w2 := hts (.initialized RX5) (List.mem_of_getElem? (i := 6) rfl)
  have w3 := hts (.instanceMethod yX5_solve) (List.mem_of_getElem? (i := 5) rfl)
  have w4 := hts (.selects RX5 yX5_solve yX5_solve) (List.mem_of_getElem? (i := 7) rfl)
  have w5 := hts (.fieldLink RX6 10 "LakePlant" "lake" "LLakePlant$Lake;") (List.mem_of_getElem? (i := 2) rfl)
  have w6 := hts (.initialized RX2) (List.mem_of_getElem? (i := 15) rfl)
  have w7 := hts (.instanceMethod yX2_settingOf) (List.mem_of_getElem? (i := 14) rfl)
  have w8 := hts (.selects RX2 yX2_settingOf yX2_settingOf) (List.mem_of_getElem? (i := 16) rfl)
  have w9 := hts (.instanceMethod yX5_mostFrom) (List.mem_of_getElem? (i := 52) rfl)
  have w10 := hts (.selects RX5 yX5_mostFrom yX5_mostFrom) (List.mem_of_getElem? (i := 53) rfl)
  have w11 := hts (.constant RX6 185 (-1000000000)) (List.mem_of_getElem? (i := 3) rfl)
  have w12 := hts (.constant RX6 186 (10000000)) (List.mem_of_getElem? (i := 4) rfl)
  subst hsz
  have hD := hD0.self (sz := s.heap.size)
  generalize hAe : va_A ([(px, .inr (6, [.ref h0, .ref hc, .ref so, .ref hp, .ref ho, .ref hh, .ref sl, .ref fl])), (so, .inr (5, [.ref h0, .ref mo, .ref ga, .ref pla, .int (iz (fo)), .int (iz (sv)), .ref ea, .ref ah, .ref ia])), (mo, .inl (T 1, 25, .inr (.inr (.inr (.inr (fun i => some (rw i))))))), (ga, .inl (T 0, 31, .inl (zA Ga))), (pla, .inl (T 0, 24, .inl (zA Pl))), (ea, .inl (T 0, 31, .inl (zA Ea))), (ah, .inl (T 0, 330, .inl (zA Ah))), (ia, .inl (T 0, 330, .inl (zA Id))), (h0, .inr (2, [.ref h1, .int (iz (ve))])), (h1, .inl (T 0, 115, .inl (zA Z)))] ++ kRows T rw 25 201 M) s.heap.size = A at hD ⊢
  have hA : ∀ q : Nat, s.heap.size ≤ q → A q := fun q h => by rw [← hAe]; exact Or.inr h
  have hS : va_S A s.heap s.heap [] := va_S.rf
  have hP : va_P D vwCl ([(px, .inr (6, [.ref h0, .ref hc, .ref so, .ref hp, .ref ho, .ref hh, .ref sl, .ref fl])), (so, .inr (5, [.ref h0, .ref mo, .ref ga, .ref pla, .int (iz (fo)), .int (iz (sv)), .ref ea, .ref ah, .ref ia])), (mo, .inl (T 1, 25, .inr (.inr (.inr (.inr (fun i => some (rw i))))))), (ga, .inl (T 0, 31, .inl (zA Ga))), (pla, .inl (T 0, 24, .inl (zA Pl))), (ea, .inl (T 0, 31, .inl (zA Ea))), (ah, .inl (T 0, 330, .inl (zA Ah))), (ia, .inl (T 0, 330, .inl (zA Id))), (h0, .inr (2, [.ref h1, .int (iz (ve))])), (h1, .inl (T 0, 115, .inl (zA Z)))] ++ kRows T rw 25 201 M) s.heap := hP
  have hl := lv_entry ([.ref px]) (n := 2) (Nat.le_of_ble_eq_true rfl)
  rw [lg_entry_eq]
  generalize (lg_sl ([.ref px]) ++ List.replicate (2 - (lg_sl ([.ref px])).length) Slot.unset).toArray = ls at hl ⊢
  have hl : lv_has ls 2 [(0, .ref px)] := hl
  have hs := hV.1
  unfold VS at hs
  have eN : NOP = -1000000000 := rfl
  have hbr := bv_top_rng hV (l := Z 7) (by omega)
  refine lv_aload_n hx hb dX6_best_0 rfl (lv_at hl 0 rfl) ?_
  refine va_get (D := D) (ci := 6) (C := RX6) (T := TX6) (N := 8) hx hb hts w1 hown hK.1 hP 0 rfl rfl 2 (by decide) w0 (fun _ h9 => h9) rfl dX6_best_1 ?_
  refine kc_wvP (va_runVN (As := []) (rest := []) ⟨hx, hb, hml, hown, hts⟩ (c_X5_solve l D T s.heap.size so mo ga pla ea ah ia fo sv h0 h1 Z ve Ga Pl Ea Ah Id rw M hV (by omega) (by have := hsi.1; omega) hsi.2) ⟨va_cnB 0 hts gX6_best_X5_solve_n179 rfl rfl rfl (kn_RX6_179 hK) w2 (by decide +kernel) ⟨Nat.le_of_ble_eq_true rfl, Nat.le_of_ble_eq_true rfl⟩, w3, w4⟩ (kPc.v hK (va_recv hK.1 hP (ci := 5) (q0 := 1) rfl rfl) (kW.cutP hP hD [1, 2, 3, 4, 5, 6, 7, 8, 9] rfl (by rfl))) rfl rfl hl.1 rfl (lv_room (Nat.le_of_ble_eq_true rfl)) dX6_best_4 ⟨Nat.zero_le _, Nat.zero_le _⟩) hP hD hS hA [1, 2, 3, 4, 5, 6, 7, 8, 9] rfl (fun _ => rfl) (fun _ => kRows_fst) (fun u H locs hr1 hP hD hS => ?_)
  obtain ⟨u2, u3, u4, u5, u6, u7, u8⟩ := u
  have hP : va_P D vwCl ([(px, .inr (6, [.ref h0, .ref hc, .ref so, .ref hp, .ref ho, .ref hh, .ref sl, .ref fl])), (so, .inr (5, [.ref h0, .ref mo, .ref ga, .ref pla, .int (iz (u2)), .int (iz (ve)), .ref ea, .ref ah, .ref ia])), (mo, .inl (T 1, 25, .inr (.inr (.inr (.inr (fun i => some (rw i))))))), (ga, .inl (T 0, 31, .inl (zA u4))), (pla, .inl (T 0, 24, .inl (zA u3))), (ea, .inl (T 0, 31, .inl (zA u5))), (ah, .inl (T 0, 330, .inl (zA u6))), (ia, .inl (T 0, 330, .inl (zA u7))), (h0, .inr (2, [.ref h1, .int (iz (ve))])), (h1, .inl (T 0, 115, .inl (zA Z)))] ++ kRows T rw 25 201 u8) H := hP
  have hD : va_D A ([(px, .inr (6, [.ref h0, .ref hc, .ref so, .ref hp, .ref ho, .ref hh, .ref sl, .ref fl])), (so, .inr (5, [.ref h0, .ref mo, .ref ga, .ref pla, .int (iz (u2)), .int (iz (ve)), .ref ea, .ref ah, .ref ia])), (mo, .inl (T 1, 25, .inr (.inr (.inr (.inr (fun i => some (rw i))))))), (ga, .inl (T 0, 31, .inl (zA u4))), (pla, .inl (T 0, 24, .inl (zA u3))), (ea, .inl (T 0, 31, .inl (zA u5))), (ah, .inl (T 0, 330, .inl (zA u6))), (ia, .inl (T 0, 330, .inl (zA u7))), (h0, .inr (2, [.ref h1, .int (iz (ve))])), (h1, .inl (T 0, 115, .inl (zA Z)))] ++ kRows T rw 25 201 u8) := hD
  try dsimp only at hr1
  obtain ⟨hMS, hfo, hpl⟩ := hr1
  refine lv_aload_n hx hb dX6_best_7 rfl (lv_at hl 0 rfl) ?_
  refine va_get (D := D) (ci := 6) (C := RX6) (T := TX6) (N := 8) hx hb hts w1 hown hK.1 hP 0 rfl rfl 2 (by decide) w0 (fun _ h9 => h9) rfl dX6_best_8 ?_
  refine lv_iconst (v := iz (0)) hx hb dX6_best_11 (by decide) ?_
  refine kz_top (y := ((0 : Nat) : Int)) rfl ?_
  refine lv_aload_n hx hb dX6_best_12 rfl (lv_at hl 0 rfl) ?_
  refine va_get (D := D) (ci := 6) (C := RX6) (T := TX6) (N := 8) hx hb hts w1 hown hK.1 hP 0 rfl rfl 0 (by decide) w5 (fun _ h9 => h9) rfl dX6_best_13 ?_
  refine lv_bipush (v := iz (7)) hx hb dX6_best_16 (by decide) ?_
  refine kz_top (y := ((7 : Nat) : Int)) rfl ?_
  refine kc_i (va_runVN (As := [.int (iz (((7 : Nat) : Int)))]) (rest := [.int (iz (((0 : Nat) : Int))), .ref so]) ⟨hx, hb, hml, hown, hts⟩ (c_X2_settingOf l D T h0 h1 Z ve 7 (by omega)) ⟨va_cnB 1 hts gX6_best_X2_settingOf_n162 rfl rfl rfl (kn_RX6_162 hK) w6 (by decide +kernel) ⟨Nat.le_of_ble_eq_true rfl, Nat.le_of_ble_eq_true rfl⟩, w7, w8⟩ (kPc.v hK (va_recv hK.1 hP (ci := 2) (q0 := 8) rfl rfl) (kcut hP [8, 9] rfl)) rfl rfl hl.1 rfl (lv_room (Nat.le_of_ble_eq_true rfl)) dX6_best_18 ⟨Nat.zero_le _, Nat.zero_le _⟩) (fun r9 hr9 => ?_)
  subst hr9
  refine kc_i (va_runVN (As := [.int (iz (((0 : Nat) : Int))), .int (iz (Z 7))]) (rest := []) ⟨hx, hb, hml, hown, hts⟩ (c_X5_mostFrom l D T so mo ga pla ea ah ia u2 ve h0 rw u8 0 (by omega) (Z 7) (by omega)) ⟨va_cnB 2 hts gX6_best_X5_mostFrom_n182 rfl rfl rfl (kn_RX6_182 hK) w2 (by decide +kernel) ⟨Nat.le_of_ble_eq_true rfl, Nat.le_of_ble_eq_true rfl⟩, w9, w10⟩ (kPc.v hK (va_recv hK.1 hP (ci := 5) (q0 := 1) rfl rfl) (hP.part [1, 2] rfl)) rfl rfl hl.1 rfl (lv_room (Nat.le_of_ble_eq_true rfl)) dX6_best_21 ⟨Nat.zero_le _, Nat.zero_le _⟩) (fun r10 hr10 => ?_)
  subst hr10
  refine kz_top (y := bv NOP Z 24 (Z 7)) (hMS.top (by omega)) ?_
  refine lv_istore_n (lv' := [(1, .int (iz (bv NOP Z 24 (Z 7)))), (0, .ref px)]) hx hb dX6_best_24 rfl hl (by decide) rfl (fun ls hl => ?_)
  refine lv_iload_n hx hb dX6_best_25 rfl (lv_at hl 0 rfl) ?_
  refine lv_ldc (v := (-1000000000 : Int32)) hx hb hown w11 dX6_best_26 ?_
  refine W.eq (g2 := F0 m 28 ls (.int (iz (-1000000000)) :: [.int (iz (bv NOP Z 24 (Z 7)))])) (by rw [show iz (-1000000000) = (-1000000000 : Int32) from by decide]) ?_
  refine kz_icmp_ne (tgt := 36) hx hb dX6_best_28 (by decide) (by omega) (by omega) (fun c28 => ?_) (fun c28 => ?_)
  · refine lv_iload_n hx hb dX6_best_36 rfl (lv_at hl 0 rfl) ?_
    refine lv_ldc (v := (10000000 : Int32)) hx hb hown w12 dX6_best_37 ?_
    refine W.eq (g2 := F0 m 39 ls (.int (iz (10000000)) :: [.int (iz (bv NOP Z 24 (Z 7)))])) (by rw [show iz (10000000) = (10000000 : Int32) from by decide]) ?_
    refine kz_add hx hb dX6_best_39 ?_
    exact W.iret hx hb hr (fun t ht hW => ⟨⟨_, (u2, u3, u4, u5, u6, u7, u8, ve), rfl, ⟨congrArg iz (by unfold pl_best; rw [if_neg (by omega)]), ⟨⟨show (-1 : Int) ≤ ve by omega, Int.le_refl _⟩, fun _ => ⟨hMS, hfo, hpl⟩⟩⟩, by show va_P _ _ _ t.heap; rw [ht]; exact hP⟩, hS.F ht⟩) hS.2.2 dX6_best_40
  · refine lv_bipush (v := iz (-6)) hx hb dX6_best_31 (by decide) ?_
    refine lv_goto (tgt := 40) hx hb dX6_best_33 (by decide) ?_
    exact W.iret hx hb hr (fun t ht hW => ⟨⟨_, (u2, u3, u4, u5, u6, u7, u8, ve), rfl, ⟨congrArg iz (by unfold pl_best; rw [if_pos (by omega)]), ⟨⟨show (-1 : Int) ≤ ve by omega, Int.le_refl _⟩, fun _ => ⟨hMS, hfo, hpl⟩⟩⟩, by show va_P _ _ _ t.heap; rw [ht]; exact hP⟩, hS.F ht⟩) hS.2.2 dX6_best_40
set_option maxHeartbeats 4000000 in
set_option maxRecDepth 100000 in
theorem c_X6_bestPlan2 (l : Launch) (D : va_G) (T : Nat → ClassId) (sz : Nat) (px : Nat) (hc : Nat) (so : Nat) (hp : Nat) (ho : Nat) (sl : Nat) (fl : Nat) (hh : Nat) (mo : Nat) (ga : Nat) (pla : Nat) (ea : Nat) (ah : Nat) (ia : Nat) (fo : Int) (sv : Int) (h0 : Nat) (h1 : Nat) (Z : Nat → Int) (ve : Int) (Ga : Nat → Int) (Pl : Nat → Int) (Ea : Nat → Int) (Ah : Nat → Int) (Id : Nat → Int) (rw : Nat → Nat) (M : Nat → Nat → Int) (a : Int) (hia : -2147483648 ≤ a ∧ a < 2147483648) (hV : VL Z) (hve : 0 ≤ ve ∧ ve ≤ 1990000000) (hsi : SI Z ve M Pl fo sv) : Met l yX6_bestPlan wsX6_bestPlan ({ frames := 5, cells := 0, slots := 0, locals := 114 }) (kPc D T [.ref px, .int (iz (a))] (kW D sz ([(px, .inr (6, [.ref h0, .ref hc, .ref so, .ref hp, .ref ho, .ref hh, .ref sl, .ref fl])), (so, .inr (5, [.ref h0, .ref mo, .ref ga, .ref pla, .int (iz (fo)), .int (iz (sv)), .ref ea, .ref ah, .ref ia])), (mo, .inl (T 1, 25, .inr (.inr (.inr (.inr (fun i => some (rw i))))))), (ga, .inl (T 0, 31, .inl (zA Ga))), (pla, .inl (T 0, 24, .inl (zA Pl))), (ea, .inl (T 0, 31, .inl (zA Ea))), (ah, .inl (T 0, 330, .inl (zA Ah))), (ia, .inl (T 0, 330, .inl (zA Id))), (h0, .inr (2, [.ref h1, .int (iz (ve))])), (h1, .inl (T 0, 115, .inl (zA Z)))] ++ kRows T rw 25 201 M))) (va_Qi (fun (r : Int32) (u : Int × (Nat → Int) × (Nat → Int) × (Nat → Int) × (Nat → Int) × (Nat → Int) × (Nat → Nat → Int) × Int) => r = iz (pl_bp Z a) ∧ SI Z ve u.2.2.2.2.2.2.1 u.2.1 u.1 u.2.2.2.2.2.2.2) (fun (u : Int × (Nat → Int) × (Nat → Int) × (Nat → Int) × (Nat → Int) × (Nat → Int) × (Nat → Nat → Int) × Int) (t : State) => va_P D vwCl ([(px, .inr (6, [.ref h0, .ref hc, .ref so, .ref hp, .ref ho, .ref hh, .ref sl, .ref fl])), (so, .inr (5, [.ref h0, .ref mo, .ref ga, .ref pla, .int (iz (u.1)), .int (iz (u.2.2.2.2.2.2.2)), .ref ea, .ref ah, .ref ia])), (mo, .inl (T 1, 25, .inr (.inr (.inr (.inr (fun i => some (rw i))))))), (ga, .inl (T 0, 31, .inl (zA u.2.2.1))), (pla, .inl (T 0, 24, .inl (zA u.2.1))), (ea, .inl (T 0, 31, .inl (zA u.2.2.2.1))), (ah, .inl (T 0, 330, .inl (zA u.2.2.2.2.1))), (ia, .inl (T 0, 330, .inl (zA u.2.2.2.2.2.1))), (h0, .inr (2, [.ref h1, .int (iz (ve))])), (h1, .inl (T 0, 115, .inl (zA Z)))] ++ kRows T rw 25 201 u.2.2.2.2.2.2.1) t.heap) (va_A ([(px, .inr (6, [.ref h0, .ref hc, .ref so, .ref hp, .ref ho, .ref hh, .ref sl, .ref fl])), (so, .inr (5, [.ref h0, .ref mo, .ref ga, .ref pla, .int (iz (fo)), .int (iz (sv)), .ref ea, .ref ah, .ref ia])), (mo, .inl (T 1, 25, .inr (.inr (.inr (.inr (fun i => some (rw i))))))), (ga, .inl (T 0, 31, .inl (zA Ga))), (pla, .inl (T 0, 24, .inl (zA Pl))), (ea, .inl (T 0, 31, .inl (zA Ea))), (ah, .inl (T 0, 330, .inl (zA Ah))), (ia, .inl (T 0, 330, .inl (zA Id))), (h0, .inr (2, [.ref h1, .int (iz (ve))])), (h1, .inl (T 0, 115, .inl (zA Z)))] ++ kRows T rw 25 201 M) sz)) 0 0 (va_A ([(px, .inr (6, [.ref h0, .ref hc, .ref so, .ref hp, .ref ho, .ref hh, .ref sl, .ref fl])), (so, .inr (5, [.ref h0, .ref mo, .ref ga, .ref pla, .int (iz (fo)), .int (iz (sv)), .ref ea, .ref ah, .ref ia])), (mo, .inl (T 1, 25, .inr (.inr (.inr (.inr (fun i => some (rw i))))))), (ga, .inl (T 0, 31, .inl (zA Ga))), (pla, .inl (T 0, 24, .inl (zA Pl))), (ea, .inl (T 0, 31, .inl (zA Ea))), (ah, .inl (T 0, 330, .inl (zA Ah))), (ia, .inl (T 0, 330, .inl (zA Id))), (h0, .inr (2, [.ref h1, .int (iz (ve))])), (h1, .inl (T 0, 115, .inl (zA Z)))] ++ kRows T rw 25 201 M) sz) := by
  refine Met.ofW (cc := cX6_bestPlan) (maxL := 2) (ret := (some .int)) (by decide) rfl ?_
  intro p e s m args below meth c s₁ B hml hv
  obtain ⟨rfl, hK, hsz, hP, hD0⟩ := hv
  have hx := B.exec
  have hb := B.bytes
  have hr := B.returns
  have hts := atoms_spec (ws := wsX6_bestPlan) B.pre
  have hown : s.vm.findClass RX6 = some m.cls := findClass_of_methodNamed B.named
  have hlocks := B.notSynchronized
  have w0 := hts (.fieldLink RX6 28 "LakePlant" "search" "LLakePlant$Search;") (List.mem_of_getElem? (i := 1) rfl)
  have w1 : ∀ w ∈ wsX60, w ∈ wsX6_bestPlan := by decide +kernel
  have w2 := hts (.initialized RX5) (List.mem_of_getElem? (i := 7) rfl)
  have w3 := hts (.instanceMethod yX5_solve) (List.mem_of_getElem? (i := 6) rfl)
  have w4 := hts (.selects RX5 yX5_solve yX5_solve) (List.mem_of_getElem? (i := 8) rfl)
  have w5 : ∀ w ∈ wsX50, w ∈ wsX6_bestPlan := by decide +kernel
  subst hsz
  have hD := hD0.self (sz := s.heap.size)
  generalize hAe : va_A ([(px, .inr (6, [.ref h0, .ref hc, .ref so, .ref hp, .ref ho, .ref hh, .ref sl, .ref fl])), (so, .inr (5, [.ref h0, .ref mo, .ref ga, .ref pla, .int (iz (fo)), .int (iz (sv)), .ref ea, .ref ah, .ref ia])), (mo, .inl (T 1, 25, .inr (.inr (.inr (.inr (fun i => some (rw i))))))), (ga, .inl (T 0, 31, .inl (zA Ga))), (pla, .inl (T 0, 24, .inl (zA Pl))), (ea, .inl (T 0, 31, .inl (zA Ea))), (ah, .inl (T 0, 330, .inl (zA Ah))), (ia, .inl (T 0, 330, .inl (zA Id))), (h0, .inr (2, [.ref h1, .int (iz (ve))])), (h1, .inl (T 0, 115, .inl (zA Z)))] ++ kRows T rw 25 201 M) s.heap.size = A at hD ⊢
  have hA : ∀ q : Nat, s.heap.size ≤ q → A q := fun q h => by rw [← hAe]; exact Or.inr h
  have hS : va_S A s.heap s.heap [] := va_S.rf
  have hP : va_P D vwCl ([(px, .inr (6, [.ref h0, .ref hc, .ref so, .ref hp, .ref ho, .ref hh, .ref sl, .ref fl])), (so, .inr (5, [.ref h0, .ref mo, .ref ga, .ref pla, .int (iz (fo)), .int (iz (sv)), .ref ea, .ref ah, .ref ia])), (mo, .inl (T 1, 25, .inr (.inr (.inr (.inr (fun i => some (rw i))))))), (ga, .inl (T 0, 31, .inl (zA Ga))), (pla, .inl (T 0, 24, .inl (zA Pl))), (ea, .inl (T 0, 31, .inl (zA Ea))), (ah, .inl (T 0, 330, .inl (zA Ah))), (ia, .inl (T 0, 330, .inl (zA Id))), (h0, .inr (2, [.ref h1, .int (iz (ve))])), (h1, .inl (T 0, 115, .inl (zA Z)))] ++ kRows T rw 25 201 M) s.heap := hP
  have hl := lv_entry ([.ref px, .int (iz (a))]) (n := 2) (Nat.le_of_ble_eq_true rfl)
  rw [lg_entry_eq]
  generalize (lg_sl ([.ref px, .int (iz (a))]) ++ List.replicate (2 - (lg_sl ([.ref px, .int (iz (a))])).length) Slot.unset).toArray = ls at hl ⊢
  have hl : lv_has ls 2 [(0, .ref px), (1, .int (iz (a)))] := hl
  have hs := hV.1
  unfold VS at hs
  have eN : NOP = -1000000000 := rfl
  have hbr := bv_top_rng hV (l := Z 7) (by omega)
  refine lv_iload_n hx hb dX6_bestPlan_0 rfl (lv_at hl 1 rfl) ?_
  refine kc_i (va_runS (As := [.int (iz (a))]) (rest := []) ⟨hx, hb, hml, hown, hts⟩ (c_X6_isHour l D T a (by omega)) (va_cwS 1 hts gX6_bestPlan_X6_isHour rfl rfl rfl (by decide +kernel) ⟨Nat.le_of_ble_eq_true rfl, Nat.le_of_ble_eq_true rfl⟩) (kPc.s hK (kcut hP [] rfl)) rfl rfl hl.1 rfl (lv_room (Nat.le_of_ble_eq_true rfl)) dX6_bestPlan_1 ⟨Nat.zero_le _, Nat.zero_le _⟩) (fun r1 hr1 => ?_)
  subst hr1
  refine kz_if_ne (tgt := 9) hx hb dX6_bestPlan_4 (by decide) (by omega) (fun c4 => ?_) (fun c4 => ?_)
  · have hin : 0 ≤ a ∧ a < 24 := by omega
    refine lv_aload_n hx hb dX6_bestPlan_9 rfl (lv_at hl 0 rfl) ?_
    refine va_get (D := D) (ci := 6) (C := RX6) (T := TX6) (N := 8) hx hb hts w1 hown hK.1 hP 0 rfl rfl 2 (by decide) w0 (fun _ h9 => h9) rfl dX6_bestPlan_10 ?_
    refine kc_wvP (va_runVN (As := []) (rest := []) ⟨hx, hb, hml, hown, hts⟩ (c_X5_solve l D T s.heap.size so mo ga pla ea ah ia fo sv h0 h1 Z ve Ga Pl Ea Ah Id rw M hV (by omega) (by have := hsi.1; omega) hsi.2) ⟨va_cnB 0 hts gX6_bestPlan_X5_solve_n179 rfl rfl rfl (kn_RX6_179 hK) w2 (by decide +kernel) ⟨Nat.le_of_ble_eq_true rfl, Nat.le_of_ble_eq_true rfl⟩, w3, w4⟩ (kPc.v hK (va_recv hK.1 hP (ci := 5) (q0 := 1) rfl rfl) (kW.cutP hP hD [1, 2, 3, 4, 5, 6, 7, 8, 9] rfl (by rfl))) rfl rfl hl.1 rfl (lv_room (Nat.le_of_ble_eq_true rfl)) dX6_bestPlan_13 ⟨Nat.zero_le _, Nat.zero_le _⟩) hP hD hS hA [1, 2, 3, 4, 5, 6, 7, 8, 9] rfl (fun _ => rfl) (fun _ => kRows_fst) (fun u H locs hr2 hP hD hS => ?_)
    obtain ⟨u3, u4, u5, u6, u7, u8, u9⟩ := u
    have hP : va_P D vwCl ([(px, .inr (6, [.ref h0, .ref hc, .ref so, .ref hp, .ref ho, .ref hh, .ref sl, .ref fl])), (so, .inr (5, [.ref h0, .ref mo, .ref ga, .ref pla, .int (iz (u3)), .int (iz (ve)), .ref ea, .ref ah, .ref ia])), (mo, .inl (T 1, 25, .inr (.inr (.inr (.inr (fun i => some (rw i))))))), (ga, .inl (T 0, 31, .inl (zA u5))), (pla, .inl (T 0, 24, .inl (zA u4))), (ea, .inl (T 0, 31, .inl (zA u6))), (ah, .inl (T 0, 330, .inl (zA u7))), (ia, .inl (T 0, 330, .inl (zA u8))), (h0, .inr (2, [.ref h1, .int (iz (ve))])), (h1, .inl (T 0, 115, .inl (zA Z)))] ++ kRows T rw 25 201 u9) H := hP
    have hD : va_D A ([(px, .inr (6, [.ref h0, .ref hc, .ref so, .ref hp, .ref ho, .ref hh, .ref sl, .ref fl])), (so, .inr (5, [.ref h0, .ref mo, .ref ga, .ref pla, .int (iz (u3)), .int (iz (ve)), .ref ea, .ref ah, .ref ia])), (mo, .inl (T 1, 25, .inr (.inr (.inr (.inr (fun i => some (rw i))))))), (ga, .inl (T 0, 31, .inl (zA u5))), (pla, .inl (T 0, 24, .inl (zA u4))), (ea, .inl (T 0, 31, .inl (zA u6))), (ah, .inl (T 0, 330, .inl (zA u7))), (ia, .inl (T 0, 330, .inl (zA u8))), (h0, .inr (2, [.ref h1, .int (iz (ve))])), (h1, .inl (T 0, 115, .inl (zA Z)))] ++ kRows T rw 25 201 u9) := hD
    try dsimp only at hr2
    obtain ⟨hMS, hfo, hpl⟩ := hr2
    refine lv_aload_n hx hb dX6_bestPlan_16 rfl (lv_at hl 0 rfl) ?_
    refine va_get (D := D) (ci := 6) (C := RX6) (T := TX6) (N := 8) hx hb hts w1 hown hK.1 hP 0 rfl rfl 2 (by decide) w0 (fun _ h9 => h9) rfl dX6_bestPlan_17 ?_
    refine va_getN (D := D) (ci := 5) (C := RX5) (T := TX5) (N := 9) hx hb hts w5 hown hK.1 hP 1 rfl rfl 4 (by decide) (kb_RX6_187 hK) (fun _ h9 => h9) rfl dX6_bestPlan_20 ?_
    have hf01 : u3 = 0 ∨ u3 = 1 := by rw [hfo]; split <;> omega
    refine kz_if_eq (tgt := 41) hx hb dX6_bestPlan_23 (by decide) (by omega) (fun c23 => ?_) (fun c23 => ?_)
    · have hne : bv NOP Z 24 (Z 7) = NOP := Decidable.byContradiction (fun q => by rw [if_neg q] at hfo; omega)
      refine lv_bipush (v := iz (-6)) hx hb dX6_bestPlan_41 (by decide) ?_
      exact W.iret hx hb hr (fun t ht hW => ⟨⟨_, (u3, u4, u5, u6, u7, u8, u9, ve), rfl, ⟨congrArg iz (by unfold pl_bp; rw [if_pos hin, if_pos hne]), ⟨⟨show (-1 : Int) ≤ ve by omega, Int.le_refl _⟩, fun _ => ⟨hMS, hfo, hpl⟩⟩⟩, by show va_P _ _ _ t.heap; rw [ht]; exact hP⟩, hS.F ht⟩) hS.2.2 dX6_bestPlan_43
    · have hne : bv NOP Z 24 (Z 7) ≠ NOP := fun q => by rw [if_pos q] at hfo; omega
      refine lv_aload_n hx hb dX6_bestPlan_26 rfl (lv_at hl 0 rfl) ?_
      refine va_get (D := D) (ci := 6) (C := RX6) (T := TX6) (N := 8) hx hb hts w1 hown hK.1 hP 0 rfl rfl 2 (by decide) w0 (fun _ h9 => h9) rfl dX6_bestPlan_27 ?_
      refine va_getN (D := D) (ci := 5) (C := RX5) (T := TX5) (N := 9) hx hb hts w5 hown hK.1 hP 1 rfl rfl 3 (by decide) (kb_RX6_191 hK) (fun _ h9 => h9) rfl dX6_bestPlan_30 ?_
      refine lv_iload_n hx hb dX6_bestPlan_33 rfl (lv_at hl 1 rfl) ?_
      refine kz_iald hx hb hK hP (4) rfl ((a).toNat) (by omega) (by omega) (by omega) dX6_bestPlan_34 ?_
      refine kz_top (y := bp NOP Z a.toNat) (hpl hne _ (by omega)) ?_
      refine lv_bipush (v := iz (100)) hx hb dX6_bestPlan_35 (by decide) ?_
      refine kz_add hx hb dX6_bestPlan_37 ?_
      refine lv_goto (tgt := 43) hx hb dX6_bestPlan_38 (by decide) ?_
      exact W.iret hx hb hr (fun t ht hW => ⟨⟨_, (u3, u4, u5, u6, u7, u8, u9, ve), rfl, ⟨congrArg iz (by unfold pl_bp; rw [if_pos hin, if_neg hne]), ⟨⟨show (-1 : Int) ≤ ve by omega, Int.le_refl _⟩, fun _ => ⟨hMS, hfo, hpl⟩⟩⟩, by show va_P _ _ _ t.heap; rw [ht]; exact hP⟩, hS.F ht⟩) hS.2.2 dX6_bestPlan_43
  · have hin : ¬ (0 ≤ a ∧ a < 24) := by omega
    refine lv_iconst (v := iz (-1)) hx hb dX6_bestPlan_7 (by decide) ?_
    exact W.iret hx hb hr (fun t ht hW => ⟨⟨_, (fo, Pl, Ga, Ea, Ah, Id, M, sv), rfl, ⟨congrArg iz (by unfold pl_bp; rw [if_neg hin]), hsi⟩, by show va_P _ _ _ t.heap; rw [ht]; exact hP⟩, hS.F ht⟩) hS.2.2 dX6_bestPlan_8
set_option maxHeartbeats 4000000 in
set_option maxRecDepth 100000 in
theorem c_X6_worth2 (l : Launch) (D : va_G) (T : Nat → ClassId) (sz : Nat) (px : Nat) (hc : Nat) (so : Nat) (hp : Nat) (ho : Nat) (sl : Nat) (fl : Nat) (hh : Nat) (mo : Nat) (ga : Nat) (pla : Nat) (ea : Nat) (ah : Nat) (ia : Nat) (fo : Int) (sv : Int) (h0 : Nat) (h1 : Nat) (Z : Nat → Int) (ve : Int) (Ga : Nat → Int) (Pl : Nat → Int) (Ea : Nat → Int) (Ah : Nat → Int) (Id : Nat → Int) (rw : Nat → Nat) (M : Nat → Nat → Int) (a : Int) (hia : -2147483648 ≤ a ∧ a < 2147483648) (hV : VL Z) (hve : 0 ≤ ve ∧ ve ≤ 1990000000) (hsi : SI Z ve M Pl fo sv) : Met l yX6_worth wsX6_worth ({ frames := 5, cells := 0, slots := 0, locals := 114 }) (kPc D T [.ref px, .int (iz (a))] (kW D sz ([(px, .inr (6, [.ref h0, .ref hc, .ref so, .ref hp, .ref ho, .ref hh, .ref sl, .ref fl])), (so, .inr (5, [.ref h0, .ref mo, .ref ga, .ref pla, .int (iz (fo)), .int (iz (sv)), .ref ea, .ref ah, .ref ia])), (mo, .inl (T 1, 25, .inr (.inr (.inr (.inr (fun i => some (rw i))))))), (ga, .inl (T 0, 31, .inl (zA Ga))), (pla, .inl (T 0, 24, .inl (zA Pl))), (ea, .inl (T 0, 31, .inl (zA Ea))), (ah, .inl (T 0, 330, .inl (zA Ah))), (ia, .inl (T 0, 330, .inl (zA Id))), (h0, .inr (2, [.ref h1, .int (iz (ve))])), (h1, .inl (T 0, 115, .inl (zA Z)))] ++ kRows T rw 25 201 M))) (va_Qi (fun (r : Int32) (u : Int × (Nat → Int) × (Nat → Int) × (Nat → Int) × (Nat → Int) × (Nat → Int) × (Nat → Nat → Int) × Int) => r = iz (pl_wor Z a) ∧ SI Z ve u.2.2.2.2.2.2.1 u.2.1 u.1 u.2.2.2.2.2.2.2) (fun (u : Int × (Nat → Int) × (Nat → Int) × (Nat → Int) × (Nat → Int) × (Nat → Int) × (Nat → Nat → Int) × Int) (t : State) => va_P D vwCl ([(px, .inr (6, [.ref h0, .ref hc, .ref so, .ref hp, .ref ho, .ref hh, .ref sl, .ref fl])), (so, .inr (5, [.ref h0, .ref mo, .ref ga, .ref pla, .int (iz (u.1)), .int (iz (u.2.2.2.2.2.2.2)), .ref ea, .ref ah, .ref ia])), (mo, .inl (T 1, 25, .inr (.inr (.inr (.inr (fun i => some (rw i))))))), (ga, .inl (T 0, 31, .inl (zA u.2.2.1))), (pla, .inl (T 0, 24, .inl (zA u.2.1))), (ea, .inl (T 0, 31, .inl (zA u.2.2.2.1))), (ah, .inl (T 0, 330, .inl (zA u.2.2.2.2.1))), (ia, .inl (T 0, 330, .inl (zA u.2.2.2.2.2.1))), (h0, .inr (2, [.ref h1, .int (iz (ve))])), (h1, .inl (T 0, 115, .inl (zA Z)))] ++ kRows T rw 25 201 u.2.2.2.2.2.2.1) t.heap) (va_A ([(px, .inr (6, [.ref h0, .ref hc, .ref so, .ref hp, .ref ho, .ref hh, .ref sl, .ref fl])), (so, .inr (5, [.ref h0, .ref mo, .ref ga, .ref pla, .int (iz (fo)), .int (iz (sv)), .ref ea, .ref ah, .ref ia])), (mo, .inl (T 1, 25, .inr (.inr (.inr (.inr (fun i => some (rw i))))))), (ga, .inl (T 0, 31, .inl (zA Ga))), (pla, .inl (T 0, 24, .inl (zA Pl))), (ea, .inl (T 0, 31, .inl (zA Ea))), (ah, .inl (T 0, 330, .inl (zA Ah))), (ia, .inl (T 0, 330, .inl (zA Id))), (h0, .inr (2, [.ref h1, .int (iz (ve))])), (h1, .inl (T 0, 115, .inl (zA Z)))] ++ kRows T rw 25 201 M) sz)) 0 0 (va_A ([(px, .inr (6, [.ref h0, .ref hc, .ref so, .ref hp, .ref ho, .ref hh, .ref sl, .ref fl])), (so, .inr (5, [.ref h0, .ref mo, .ref ga, .ref pla, .int (iz (fo)), .int (iz (sv)), .ref ea, .ref ah, .ref ia])), (mo, .inl (T 1, 25, .inr (.inr (.inr (.inr (fun i => some (rw i))))))), (ga, .inl (T 0, 31, .inl (zA Ga))), (pla, .inl (T 0, 24, .inl (zA Pl))), (ea, .inl (T 0, 31, .inl (zA Ea))), (ah, .inl (T 0, 330, .inl (zA Ah))), (ia, .inl (T 0, 330, .inl (zA Id))), (h0, .inr (2, [.ref h1, .int (iz (ve))])), (h1, .inl (T 0, 115, .inl (zA Z)))] ++ kRows T rw 25 201 M) sz) := by
  refine Met.ofW (cc := cX6_worth) (maxL := 5) (ret := (some .int)) (by decide) rfl ?_
  intro p e s m args below meth c s₁ B hml hv
  obtain ⟨rfl, hK, hsz, hP, hD0⟩ := hv
  have hx := B.exec
  have hb := B.bytes
  have hr := B.returns
  have hts := atoms_spec (ws := wsX6_worth) B.pre
  have hown : s.vm.findClass RX6 = some m.cls := findClass_of_methodNamed B.named
  have hlocks := B.notSynchronized
  have w0 := hts (.fieldLink RX6 10 "LakePlant" "lake" "LLakePlant$Lake;") (List.mem_of_getElem? (i := 1) rfl)
  have w1 : ∀ w ∈ wsX60, w ∈ wsX6_worth := by decide +kernel
  have w2 := hts (.initialized RX2) (List.mem_of_getElem? (i := 6) rfl)
  have w3 := hts (.instanceMethod yX2_settingOf) (List.mem_of_getElem? (i := 5) rfl)
  have w4 := hts (.selects RX2 yX2_settingOf yX2_settingOf) (List.mem_of_getElem? (i := 7) rfl)
  have w5 := hts (.fieldLink RX6 28 "LakePlant" "search" "LLakePlant$Search;") (List.mem_of_getElem? (i := 2) rfl)
  have w6 := hts (.initialized RX5) (List.mem_of_getElem? (i := 11) rfl)
  have w7 := hts (.instanceMethod yX5_solve) (List.mem_of_getElem? (i := 10) rfl)
  have w8 := hts (.selects RX5 yX5_solve yX5_solve) (List.mem_of_getElem? (i := 12) rfl)
  have w9 := hts (.instanceMethod yX5_mostFrom) (List.mem_of_getElem? (i := 52) rfl)
  have w10 := hts (.selects RX5 yX5_mostFrom yX5_mostFrom) (List.mem_of_getElem? (i := 53) rfl)
  have w11 := hts (.constant RX6 185 (-1000000000)) (List.mem_of_getElem? (i := 3) rfl)
  have w12 := hts (.constant RX6 186 (10000000)) (List.mem_of_getElem? (i := 4) rfl)
  subst hsz
  have hD := hD0.self (sz := s.heap.size)
  generalize hAe : va_A ([(px, .inr (6, [.ref h0, .ref hc, .ref so, .ref hp, .ref ho, .ref hh, .ref sl, .ref fl])), (so, .inr (5, [.ref h0, .ref mo, .ref ga, .ref pla, .int (iz (fo)), .int (iz (sv)), .ref ea, .ref ah, .ref ia])), (mo, .inl (T 1, 25, .inr (.inr (.inr (.inr (fun i => some (rw i))))))), (ga, .inl (T 0, 31, .inl (zA Ga))), (pla, .inl (T 0, 24, .inl (zA Pl))), (ea, .inl (T 0, 31, .inl (zA Ea))), (ah, .inl (T 0, 330, .inl (zA Ah))), (ia, .inl (T 0, 330, .inl (zA Id))), (h0, .inr (2, [.ref h1, .int (iz (ve))])), (h1, .inl (T 0, 115, .inl (zA Z)))] ++ kRows T rw 25 201 M) s.heap.size = A at hD ⊢
  have hA : ∀ q : Nat, s.heap.size ≤ q → A q := fun q h => by rw [← hAe]; exact Or.inr h
  have hS : va_S A s.heap s.heap [] := va_S.rf
  have hP : va_P D vwCl ([(px, .inr (6, [.ref h0, .ref hc, .ref so, .ref hp, .ref ho, .ref hh, .ref sl, .ref fl])), (so, .inr (5, [.ref h0, .ref mo, .ref ga, .ref pla, .int (iz (fo)), .int (iz (sv)), .ref ea, .ref ah, .ref ia])), (mo, .inl (T 1, 25, .inr (.inr (.inr (.inr (fun i => some (rw i))))))), (ga, .inl (T 0, 31, .inl (zA Ga))), (pla, .inl (T 0, 24, .inl (zA Pl))), (ea, .inl (T 0, 31, .inl (zA Ea))), (ah, .inl (T 0, 330, .inl (zA Ah))), (ia, .inl (T 0, 330, .inl (zA Id))), (h0, .inr (2, [.ref h1, .int (iz (ve))])), (h1, .inl (T 0, 115, .inl (zA Z)))] ++ kRows T rw 25 201 M) s.heap := hP
  have hl := lv_entry ([.ref px, .int (iz (a))]) (n := 5) (Nat.le_of_ble_eq_true rfl)
  rw [lg_entry_eq]
  generalize (lg_sl ([.ref px, .int (iz (a))]) ++ List.replicate (5 - (lg_sl ([.ref px, .int (iz (a))])).length) Slot.unset).toArray = ls at hl ⊢
  have hl : lv_has ls 5 [(0, .ref px), (1, .int (iz (a)))] := hl
  have hs := hV.1
  unfold VS at hs
  have eN : NOP = -1000000000 := rfl
  have hbr := bv_top_rng hV (l := Z 7) (by omega)
  refine lv_iload_n hx hb dX6_worth_0 rfl (lv_at hl 1 rfl) ?_
  refine lv_sipush (v := iz (-200)) hx hb dX6_worth_1 (by decide) ?_
  refine kz_icmp_lt (tgt := 14) hx hb dX6_worth_4 (by decide) (by omega) (by omega) (fun c4 => ?_) (fun c4 => ?_)
  · refine lv_bipush (v := iz (-2)) hx hb dX6_worth_14 (by decide) ?_
    exact W.iret hx hb hr (fun t ht hW => ⟨⟨_, (fo, Pl, Ga, Ea, Ah, Id, M, sv), rfl, ⟨congrArg iz (by unfold pl_wor; rw [if_neg (by omega)]), hsi⟩, by show va_P _ _ _ t.heap; rw [ht]; exact hP⟩, hS.F ht⟩) hS.2.2 dX6_worth_16
  · refine lv_iload_n hx hb dX6_worth_7 rfl (lv_at hl 1 rfl) ?_
    refine lv_sipush (v := iz (200)) hx hb dX6_worth_8 (by decide) ?_
    refine kz_icmp_le (tgt := 17) hx hb dX6_worth_11 (by decide) (by omega) (by omega) (fun c11 => ?_) (fun c11 => ?_)
    · refine lv_aload_n hx hb dX6_worth_17 rfl (lv_at hl 0 rfl) ?_
      refine va_get (D := D) (ci := 6) (C := RX6) (T := TX6) (N := 8) hx hb hts w1 hown hK.1 hP 0 rfl rfl 0 (by decide) w0 (fun _ h9 => h9) rfl dX6_worth_18 ?_
      refine lv_bipush (v := iz (7)) hx hb dX6_worth_21 (by decide) ?_
      refine kz_top (y := ((7 : Nat) : Int)) rfl ?_
      refine kc_i (va_runVN (As := [.int (iz (((7 : Nat) : Int)))]) (rest := []) ⟨hx, hb, hml, hown, hts⟩ (c_X2_settingOf l D T h0 h1 Z ve 7 (by omega)) ⟨va_cnB 1 hts gX6_worth_X2_settingOf_n162 rfl rfl rfl (kn_RX6_162 hK) w2 (by decide +kernel) ⟨Nat.le_of_ble_eq_true rfl, Nat.le_of_ble_eq_true rfl⟩, w3, w4⟩ (kPc.v hK (va_recv hK.1 hP (ci := 2) (q0 := 8) rfl rfl) (kcut hP [8, 9] rfl)) rfl rfl hl.1 rfl (lv_room (Nat.le_of_ble_eq_true rfl)) dX6_worth_23 ⟨Nat.zero_le _, Nat.zero_le _⟩) (fun r1 hr1 => ?_)
      subst hr1
      refine lv_istore_n (lv' := [(2, .int (iz (Z 7))), (0, .ref px), (1, .int (iz (a)))]) hx hb dX6_worth_26 rfl hl (by decide) rfl (fun ls hl => ?_)
      refine lv_iload_n hx hb dX6_worth_27 rfl (lv_at hl 0 rfl) ?_
      refine lv_iload_n hx hb dX6_worth_28 rfl (lv_at hl 2 rfl) ?_
      refine kz_add hx hb dX6_worth_29 ?_
      refine kz_if_lt (tgt := 42) hx hb dX6_worth_30 (by decide) (by omega) (fun c30 => ?_) (fun c30 => ?_)
      · refine lv_bipush (v := iz (-2)) hx hb dX6_worth_42 (by decide) ?_
        exact W.iret hx hb hr (fun t ht hW => ⟨⟨_, (fo, Pl, Ga, Ea, Ah, Id, M, sv), rfl, ⟨congrArg iz (by unfold pl_wor; rw [if_neg (by omega)]), hsi⟩, by show va_P _ _ _ t.heap; rw [ht]; exact hP⟩, hS.F ht⟩) hS.2.2 dX6_worth_44
      · refine lv_iload_n hx hb dX6_worth_33 rfl (lv_at hl 0 rfl) ?_
        refine lv_iload_n hx hb dX6_worth_34 rfl (lv_at hl 2 rfl) ?_
        refine kz_add hx hb dX6_worth_35 ?_
        refine lv_sipush (v := iz (200)) hx hb dX6_worth_36 (by decide) ?_
        refine kz_icmp_le (tgt := 45) hx hb dX6_worth_39 (by decide) (by omega) (by omega) (fun c39 => ?_) (fun c39 => ?_)
        · have hin : (-200 ≤ a ∧ a ≤ 200) ∧ 0 ≤ Z 7 + a ∧ Z 7 + a ≤ 200 := by omega
          have hbr2 := bv_top_rng hV (l := Z 7 + a) (by omega)
          refine lv_aload_n hx hb dX6_worth_45 rfl (lv_at hl 1 rfl) ?_
          refine va_get (D := D) (ci := 6) (C := RX6) (T := TX6) (N := 8) hx hb hts w1 hown hK.1 hP 0 rfl rfl 2 (by decide) w5 (fun _ h9 => h9) rfl dX6_worth_46 ?_
          refine kc_wvP (va_runVN (As := []) (rest := []) ⟨hx, hb, hml, hown, hts⟩ (c_X5_solve l D T s.heap.size so mo ga pla ea ah ia fo sv h0 h1 Z ve Ga Pl Ea Ah Id rw M hV (by omega) (by have := hsi.1; omega) hsi.2) ⟨va_cnB 0 hts gX6_worth_X5_solve_n179 rfl rfl rfl (kn_RX6_179 hK) w6 (by decide +kernel) ⟨Nat.le_of_ble_eq_true rfl, Nat.le_of_ble_eq_true rfl⟩, w7, w8⟩ (kPc.v hK (va_recv hK.1 hP (ci := 5) (q0 := 1) rfl rfl) (kW.cutP hP hD [1, 2, 3, 4, 5, 6, 7, 8, 9] rfl (by rfl))) rfl rfl hl.1 rfl (lv_room (Nat.le_of_ble_eq_true rfl)) dX6_worth_49 ⟨Nat.zero_le _, Nat.zero_le _⟩) hP hD hS hA [1, 2, 3, 4, 5, 6, 7, 8, 9] rfl (fun _ => rfl) (fun _ => kRows_fst) (fun u H locs hr2 hP hD hS => ?_)
          obtain ⟨u3, u4, u5, u6, u7, u8, u9⟩ := u
          have hP : va_P D vwCl ([(px, .inr (6, [.ref h0, .ref hc, .ref so, .ref hp, .ref ho, .ref hh, .ref sl, .ref fl])), (so, .inr (5, [.ref h0, .ref mo, .ref ga, .ref pla, .int (iz (u3)), .int (iz (ve)), .ref ea, .ref ah, .ref ia])), (mo, .inl (T 1, 25, .inr (.inr (.inr (.inr (fun i => some (rw i))))))), (ga, .inl (T 0, 31, .inl (zA u5))), (pla, .inl (T 0, 24, .inl (zA u4))), (ea, .inl (T 0, 31, .inl (zA u6))), (ah, .inl (T 0, 330, .inl (zA u7))), (ia, .inl (T 0, 330, .inl (zA u8))), (h0, .inr (2, [.ref h1, .int (iz (ve))])), (h1, .inl (T 0, 115, .inl (zA Z)))] ++ kRows T rw 25 201 u9) H := hP
          have hD : va_D A ([(px, .inr (6, [.ref h0, .ref hc, .ref so, .ref hp, .ref ho, .ref hh, .ref sl, .ref fl])), (so, .inr (5, [.ref h0, .ref mo, .ref ga, .ref pla, .int (iz (u3)), .int (iz (ve)), .ref ea, .ref ah, .ref ia])), (mo, .inl (T 1, 25, .inr (.inr (.inr (.inr (fun i => some (rw i))))))), (ga, .inl (T 0, 31, .inl (zA u5))), (pla, .inl (T 0, 24, .inl (zA u4))), (ea, .inl (T 0, 31, .inl (zA u6))), (ah, .inl (T 0, 330, .inl (zA u7))), (ia, .inl (T 0, 330, .inl (zA u8))), (h0, .inr (2, [.ref h1, .int (iz (ve))])), (h1, .inl (T 0, 115, .inl (zA Z)))] ++ kRows T rw 25 201 u9) := hD
          try dsimp only at hr2
          obtain ⟨hMS, hfo, hpl⟩ := hr2
          refine lv_aload_n hx hb dX6_worth_52 rfl (lv_at hl 1 rfl) ?_
          refine va_get (D := D) (ci := 6) (C := RX6) (T := TX6) (N := 8) hx hb hts w1 hown hK.1 hP 0 rfl rfl 2 (by decide) w5 (fun _ h9 => h9) rfl dX6_worth_53 ?_
          refine lv_iconst (v := iz (0)) hx hb dX6_worth_56 (by decide) ?_
          refine kz_top (y := ((0 : Nat) : Int)) rfl ?_
          refine lv_iload_n hx hb dX6_worth_57 rfl (lv_at hl 0 rfl) ?_
          refine kc_i (va_runVN (As := [.int (iz (((0 : Nat) : Int))), .int (iz (Z 7))]) (rest := []) ⟨hx, hb, hml, hown, hts⟩ (c_X5_mostFrom l D T so mo ga pla ea ah ia u3 ve h0 rw u9 0 (by omega) (Z 7) (by omega)) ⟨va_cnB 2 hts gX6_worth_X5_mostFrom_n182 rfl rfl rfl (kn_RX6_182 hK) w6 (by decide +kernel) ⟨Nat.le_of_ble_eq_true rfl, Nat.le_of_ble_eq_true rfl⟩, w9, w10⟩ (kPc.v hK (va_recv hK.1 hP (ci := 5) (q0 := 1) rfl rfl) (hP.part [1, 2] rfl)) rfl rfl hl.1 rfl (lv_room (Nat.le_of_ble_eq_true rfl)) dX6_worth_58 ⟨Nat.zero_le _, Nat.zero_le _⟩) (fun r10 hr10 => ?_)
          subst hr10
          refine kz_top (y := bv NOP Z 24 (Z 7)) (hMS.top (by omega)) ?_
          refine lv_istore_n (lv' := [(3, .int (iz (bv NOP Z 24 (Z 7)))), (2, .int (iz (Z 7))), (0, .ref px), (1, .int (iz (a)))]) hx hb dX6_worth_61 rfl hl (by decide) rfl (fun ls hl => ?_)
          refine lv_aload_n hx hb dX6_worth_62 rfl (lv_at hl 2 rfl) ?_
          refine va_get (D := D) (ci := 6) (C := RX6) (T := TX6) (N := 8) hx hb hts w1 hown hK.1 hP 0 rfl rfl 2 (by decide) w5 (fun _ h9 => h9) rfl dX6_worth_63 ?_
          refine lv_iconst (v := iz (0)) hx hb dX6_worth_66 (by decide) ?_
          refine kz_top (y := ((0 : Nat) : Int)) rfl ?_
          refine lv_iload_n hx hb dX6_worth_67 rfl (lv_at hl 1 rfl) ?_
          refine lv_iload_n hx hb dX6_worth_68 rfl (lv_at hl 3 rfl) ?_
          refine kz_add hx hb dX6_worth_69 ?_
          refine kc_i (va_runVN (As := [.int (iz (((0 : Nat) : Int))), .int (iz ((Z 7) + a))]) (rest := []) ⟨hx, hb, hml, hown, hts⟩ (c_X5_mostFrom l D T so mo ga pla ea ah ia u3 ve h0 rw u9 0 (by omega) ((Z 7) + a) (by omega)) ⟨va_cnB 2 hts gX6_worth_X5_mostFrom_n182 rfl rfl rfl (kn_RX6_182 hK) w6 (by decide +kernel) ⟨Nat.le_of_ble_eq_true rfl, Nat.le_of_ble_eq_true rfl⟩, w9, w10⟩ (kPc.v hK (va_recv hK.1 hP (ci := 5) (q0 := 1) rfl rfl) (hP.part [1, 2] rfl)) rfl rfl hl.1 rfl (lv_room (Nat.le_of_ble_eq_true rfl)) dX6_worth_70 ⟨Nat.zero_le _, Nat.zero_le _⟩) (fun r11 hr11 => ?_)
          subst hr11
          refine kz_top (y := bv NOP Z 24 (Z 7 + a)) (hMS.top (by omega)) ?_
          refine lv_istore (lv' := [(4, .int (iz (bv NOP Z 24 (Z 7 + a)))), (3, .int (iz (bv NOP Z 24 (Z 7)))), (2, .int (iz (Z 7))), (0, .ref px), (1, .int (iz (a)))]) hx hb dX6_worth_73 hl (by decide) rfl (fun ls hl => ?_)
          refine lv_iload_n hx hb dX6_worth_75 rfl (lv_at hl 1 rfl) ?_
          refine lv_ldc (v := (-1000000000 : Int32)) hx hb hown w11 dX6_worth_76 ?_
          refine W.eq (g2 := F0 m 78 ls (.int (iz (-1000000000)) :: [.int (iz (bv NOP Z 24 (Z 7)))])) (by rw [show iz (-1000000000) = (-1000000000 : Int32) from by decide]) ?_
          refine kz_icmp_eq (tgt := 88) hx hb dX6_worth_78 (by decide) (by omega) (by omega) (fun c78 => ?_) (fun c78 => ?_)
          · refine lv_bipush (v := iz (-6)) hx hb dX6_worth_88 (by decide) ?_
            exact W.iret hx hb hr (fun t ht hW => ⟨⟨_, (u3, u4, u5, u6, u7, u8, u9, ve), rfl, ⟨congrArg iz (by unfold pl_wor; rw [if_pos hin, if_pos (by omega)]), ⟨⟨show (-1 : Int) ≤ ve by omega, Int.le_refl _⟩, fun _ => ⟨hMS, hfo, hpl⟩⟩⟩, by show va_P _ _ _ t.heap; rw [ht]; exact hP⟩, hS.F ht⟩) hS.2.2 dX6_worth_90
          · refine lv_iload hx hb dX6_worth_81 (lv_at hl 0 rfl) ?_
            refine lv_ldc (v := (-1000000000 : Int32)) hx hb hown w11 dX6_worth_83 ?_
            refine W.eq (g2 := F0 m 85 ls (.int (iz (-1000000000)) :: [.int (iz (bv NOP Z 24 (Z 7 + a)))])) (by rw [show iz (-1000000000) = (-1000000000 : Int32) from by decide]) ?_
            refine kz_icmp_ne (tgt := 91) hx hb dX6_worth_85 (by decide) (by omega) (by omega) (fun c85 => ?_) (fun c85 => ?_)
            · refine lv_iload hx hb dX6_worth_91 (lv_at hl 0 rfl) ?_
              refine lv_iload_n hx hb dX6_worth_93 rfl (lv_at hl 1 rfl) ?_
              refine kz_sub hx hb dX6_worth_94 ?_
              refine lv_ldc (v := (10000000 : Int32)) hx hb hown w12 dX6_worth_95 ?_
              refine W.eq (g2 := F0 m 97 ls (.int (iz (10000000)) :: [.int (iz ((bv NOP Z 24 (Z 7 + a)) - (bv NOP Z 24 (Z 7))))])) (by rw [show iz (10000000) = (10000000 : Int32) from by decide]) ?_
              refine kz_add hx hb dX6_worth_97 ?_
              exact W.iret hx hb hr (fun t ht hW => ⟨⟨_, (u3, u4, u5, u6, u7, u8, u9, ve), rfl, ⟨congrArg iz (by unfold pl_wor; rw [if_pos hin, if_neg (by omega)]), ⟨⟨show (-1 : Int) ≤ ve by omega, Int.le_refl _⟩, fun _ => ⟨hMS, hfo, hpl⟩⟩⟩, by show va_P _ _ _ t.heap; rw [ht]; exact hP⟩, hS.F ht⟩) hS.2.2 dX6_worth_98
            · refine lv_bipush (v := iz (-6)) hx hb dX6_worth_88 (by decide) ?_
              exact W.iret hx hb hr (fun t ht hW => ⟨⟨_, (u3, u4, u5, u6, u7, u8, u9, ve), rfl, ⟨congrArg iz (by unfold pl_wor; rw [if_pos hin, if_pos (by omega)]), ⟨⟨show (-1 : Int) ≤ ve by omega, Int.le_refl _⟩, fun _ => ⟨hMS, hfo, hpl⟩⟩⟩, by show va_P _ _ _ t.heap; rw [ht]; exact hP⟩, hS.F ht⟩) hS.2.2 dX6_worth_90
        · refine lv_bipush (v := iz (-2)) hx hb dX6_worth_42 (by decide) ?_
          exact W.iret hx hb hr (fun t ht hW => ⟨⟨_, (fo, Pl, Ga, Ea, Ah, Id, M, sv), rfl, ⟨congrArg iz (by unfold pl_wor; rw [if_neg (by omega)]), hsi⟩, by show va_P _ _ _ t.heap; rw [ht]; exact hP⟩, hS.F ht⟩) hS.2.2 dX6_worth_44
    · refine lv_bipush (v := iz (-2)) hx hb dX6_worth_14 (by decide) ?_
      exact W.iret hx hb hr (fun t ht hW => ⟨⟨_, (fo, Pl, Ga, Ea, Ah, Id, M, sv), rfl, ⟨congrArg iz (by unfold pl_wor; rw [if_neg (by omega)]), hsi⟩, by show va_P _ _ _ t.heap; rw [ht]; exact hP⟩, hS.F ht⟩) hS.2.2 dX6_worth_16
