set_option maxHeartbeats 4000000 in
set_option maxRecDepth 100000 in
theorem c_X6_adoptBest (l : Launch) (D : va_G) (T : Nat → ClassId) (sz : Nat) (px : Nat) (hc : Nat) (so : Nat) (hp : Nat) (ho : Nat) (sl : Nat) (fl : Nat) (hh : Nat) (mo : Nat) (ga : Nat) (pla : Nat) (ea : Nat) (ah : Nat) (ia : Nat) (fo : Int) (sv : Int) (h0 : Nat) (h1 : Nat) (Z : Nat → Int) (ve : Int) (Ga : Nat → Int) (Pl : Nat → Int) (Ea : Nat → Int) (Ah : Nat → Int) (Id : Nat → Int) (rw : Nat → Nat) (M : Nat → Nat → Int) (hV : VL Z) (hve : 0 ≤ ve ∧ ve ≤ 2000000000) (hsv : -1 ≤ sv ∧ sv ≤ 2000000000) (hso : sv = ve → SOL Z M Pl fo) : Met l yX6_adoptBest wsX6_adoptBest ({ frames := 5, cells := 0, slots := 0, locals := 114 }) (kPc D T [.ref px] (kW D sz ([(px, .inr (6, [.ref h0, .ref hc, .ref so, .ref hp, .ref ho, .ref hh, .ref sl, .ref fl])), (so, .inr (5, [.ref h0, .ref mo, .ref ga, .ref pla, .int (iz (fo)), .int (iz (sv)), .ref ea, .ref ah, .ref ia])), (mo, .inl (T 1, 25, .inr (.inr (.inr (.inr (fun i => some (rw i))))))), (ga, .inl (T 0, 31, .inl (zA Ga))), (pla, .inl (T 0, 24, .inl (zA Pl))), (ea, .inl (T 0, 31, .inl (zA Ea))), (ah, .inl (T 0, 330, .inl (zA Ah))), (ia, .inl (T 0, 330, .inl (zA Id))), (h0, .inr (2, [.ref h1, .int (iz (ve))])), (h1, .inl (T 0, 115, .inl (zA Z)))] ++ kRows T rw 25 201 M))) (va_Qi (fun (r : Int32) (u : Int × (Nat → Int) × (Nat → Int) × (Nat → Int) × (Nat → Int) × (Nat → Int) × (Nat → Nat → Int) × (Nat → Int)) => r = iz (if bv NOP Z 24 (Z 7) = NOP then -5 else ad_c Z 24) ∧ SOL u.2.2.2.2.2.2.2 u.2.2.2.2.2.2.1 u.2.1 u.1 ∧ VL u.2.2.2.2.2.2.2 ∧ u.2.2.2.2.2.2.2 = (if bv NOP Z 24 (Z 7) = NOP then Z else pl_ad Z 24)) (fun (u : Int × (Nat → Int) × (Nat → Int) × (Nat → Int) × (Nat → Int) × (Nat → Int) × (Nat → Nat → Int) × (Nat → Int)) (t : State) => va_P D vwCl ([(px, .inr (6, [.ref h0, .ref hc, .ref so, .ref hp, .ref ho, .ref hh, .ref sl, .ref fl])), (so, .inr (5, [.ref h0, .ref mo, .ref ga, .ref pla, .int (iz (u.1)), .int (iz (ve)), .ref ea, .ref ah, .ref ia])), (mo, .inl (T 1, 25, .inr (.inr (.inr (.inr (fun i => some (rw i))))))), (ga, .inl (T 0, 31, .inl (zA u.2.2.1))), (pla, .inl (T 0, 24, .inl (zA u.2.1))), (ea, .inl (T 0, 31, .inl (zA u.2.2.2.1))), (ah, .inl (T 0, 330, .inl (zA u.2.2.2.2.1))), (ia, .inl (T 0, 330, .inl (zA u.2.2.2.2.2.1))), (h0, .inr (2, [.ref h1, .int (iz (ve))])), (h1, .inl (T 0, 115, .inl (zA u.2.2.2.2.2.2.2)))] ++ kRows T rw 25 201 u.2.2.2.2.2.2.1) t.heap) (va_A ([(px, .inr (6, [.ref h0, .ref hc, .ref so, .ref hp, .ref ho, .ref hh, .ref sl, .ref fl])), (so, .inr (5, [.ref h0, .ref mo, .ref ga, .ref pla, .int (iz (fo)), .int (iz (sv)), .ref ea, .ref ah, .ref ia])), (mo, .inl (T 1, 25, .inr (.inr (.inr (.inr (fun i => some (rw i))))))), (ga, .inl (T 0, 31, .inl (zA Ga))), (pla, .inl (T 0, 24, .inl (zA Pl))), (ea, .inl (T 0, 31, .inl (zA Ea))), (ah, .inl (T 0, 330, .inl (zA Ah))), (ia, .inl (T 0, 330, .inl (zA Id))), (h0, .inr (2, [.ref h1, .int (iz (ve))])), (h1, .inl (T 0, 115, .inl (zA Z)))] ++ kRows T rw 25 201 M) sz)) 0 0 (va_A ([(px, .inr (6, [.ref h0, .ref hc, .ref so, .ref hp, .ref ho, .ref hh, .ref sl, .ref fl])), (so, .inr (5, [.ref h0, .ref mo, .ref ga, .ref pla, .int (iz (fo)), .int (iz (sv)), .ref ea, .ref ah, .ref ia])), (mo, .inl (T 1, 25, .inr (.inr (.inr (.inr (fun i => some (rw i))))))), (ga, .inl (T 0, 31, .inl (zA Ga))), (pla, .inl (T 0, 24, .inl (zA Pl))), (ea, .inl (T 0, 31, .inl (zA Ea))), (ah, .inl (T 0, 330, .inl (zA Ah))), (ia, .inl (T 0, 330, .inl (zA Id))), (h0, .inr (2, [.ref h1, .int (iz (ve))])), (h1, .inl (T 0, 115, .inl (zA Z)))] ++ kRows T rw 25 201 M) sz) := by
  refine Met.ofW (cc := cX6_adoptBest) (maxL := 3) (ret := (some .int)) (by decide) rfl ?_
  intro p e s m args below meth c s₁ B hml hv
  obtain ⟨rfl, hK, hsz, hP, hD0⟩ := hv
  have hx := B.exec
  have hb := B.bytes
  have hr := B.returns
  have hts := atoms_spec (ws := wsX6_adoptBest) B.pre
  have hown : s.vm.findClass RX6 = some m.cls := findClass_of_methodNamed B.named
  have hlocks := B.notSynchronized
  have w0 := hts (.fieldLink RX6 28 "LakePlant" "search" "LLakePlant$Search;") (List.mem_of_getElem? (i := 1) rfl)
  have w1 : ∀ w ∈ wsX60, w ∈ wsX6_adoptBest := by decide +kernel
  have w2 := hts (.initialized RX5) (List.mem_of_getElem? (i := 4) rfl)
  have w3 := hts (.instanceMethod yX5_solve) (List.mem_of_getElem? (i := 3) rfl)
  have w4 := hts (.selects RX5 yX5_solve yX5_solve) (List.mem_of_getElem? (i := 5) rfl)
  have w5 : ∀ w ∈ wsX50, w ∈ wsX6_adoptBest := by decide +kernel
  have w6 := hts (.fieldLink RX6 10 "LakePlant" "lake" "LLakePlant$Lake;") (List.mem_of_getElem? (i := 2) rfl)
  have w7 := hts (.initialized RX2) (List.mem_of_getElem? (i := 13) rfl)
  have w8 := hts (.instanceMethod yX2_planOf) (List.mem_of_getElem? (i := 111) rfl)
  have w9 := hts (.selects RX2 yX2_planOf yX2_planOf) (List.mem_of_getElem? (i := 112) rfl)
  have w10 := hts (.instanceMethod yX2_changePlan) (List.mem_of_getElem? (i := 114) rfl)
  have w11 := hts (.selects RX2 yX2_changePlan yX2_changePlan) (List.mem_of_getElem? (i := 115) rfl)
  subst hsz
  have hD := hD0.self (sz := s.heap.size)
  generalize hAe : va_A ([(px, .inr (6, [.ref h0, .ref hc, .ref so, .ref hp, .ref ho, .ref hh, .ref sl, .ref fl])), (so, .inr (5, [.ref h0, .ref mo, .ref ga, .ref pla, .int (iz (fo)), .int (iz (sv)), .ref ea, .ref ah, .ref ia])), (mo, .inl (T 1, 25, .inr (.inr (.inr (.inr (fun i => some (rw i))))))), (ga, .inl (T 0, 31, .inl (zA Ga))), (pla, .inl (T 0, 24, .inl (zA Pl))), (ea, .inl (T 0, 31, .inl (zA Ea))), (ah, .inl (T 0, 330, .inl (zA Ah))), (ia, .inl (T 0, 330, .inl (zA Id))), (h0, .inr (2, [.ref h1, .int (iz (ve))])), (h1, .inl (T 0, 115, .inl (zA Z)))] ++ kRows T rw 25 201 M) s.heap.size = A at hD ⊢
  have hA : ∀ q : Nat, s.heap.size ≤ q → A q := fun q h => by rw [← hAe]; exact Or.inr h
  have hS : va_S A s.heap s.heap [] := va_S.rf
  have hP : va_P D vwCl ([(px, .inr (6, [.ref h0, .ref hc, .ref so, .ref hp, .ref ho, .ref hh, .ref sl, .ref fl])), (so, .inr (5, [.ref h0, .ref mo, .ref ga, .ref pla, .int (iz (fo)), .int (iz (sv)), .ref ea, .ref ah, .ref ia])), (mo, .inl (T 1, 25, .inr (.inr (.inr (.inr (fun i => some (rw i))))))), (ga, .inl (T 0, 31, .inl (zA Ga))), (pla, .inl (T 0, 24, .inl (zA Pl))), (ea, .inl (T 0, 31, .inl (zA Ea))), (ah, .inl (T 0, 330, .inl (zA Ah))), (ia, .inl (T 0, 330, .inl (zA Id))), (h0, .inr (2, [.ref h1, .int (iz (ve))])), (h1, .inl (T 0, 115, .inl (zA Z)))] ++ kRows T rw 25 201 M) s.heap := hP
  have hl := lv_entry ([.ref px]) (n := 3) (Nat.le_of_ble_eq_true rfl)
  rw [lg_entry_eq]
  generalize (lg_sl ([.ref px]) ++ List.replicate (3 - (lg_sl ([.ref px])).length) Slot.unset).toArray = ls at hl ⊢
  have hl : lv_has ls 3 [(0, .ref px)] := hl
  have hs := hV.1
  unfold VS at hs
  have eN : NOP = -1000000000 := rfl
  have hbr := bv_top_rng hV (l := Z 7) (by omega)
  refine lv_aload_n hx hb dX6_adoptBest_0 rfl (lv_at hl 0 rfl) ?_
  refine va_get (D := D) (ci := 6) (C := RX6) (T := TX6) (N := 8) hx hb hts w1 hown hK.1 hP 0 rfl rfl 2 (by decide) w0 (fun _ h9 => h9) rfl dX6_adoptBest_1 ?_
  refine kc_wvP (va_runVN (As := []) (rest := []) ⟨hx, hb, hml, hown, hts⟩ (c_X5_solve l D T s.heap.size so mo ga pla ea ah ia fo sv h0 h1 Z ve Ga Pl Ea Ah Id rw M hV hve hsv hso) ⟨va_cnB 0 hts gX6_adoptBest_X5_solve_n179 rfl rfl rfl (kn_RX6_179 hK) w2 (by decide +kernel) ⟨Nat.le_of_ble_eq_true rfl, Nat.le_of_ble_eq_true rfl⟩, w3, w4⟩ (kPc.v hK (va_recv hK.1 hP (ci := 5) (q0 := 1) rfl rfl) (kW.cutP hP hD [1, 2, 3, 4, 5, 6, 7, 8, 9] rfl (by rfl))) rfl rfl hl.1 rfl (lv_room (Nat.le_of_ble_eq_true rfl)) dX6_adoptBest_4 ⟨Nat.zero_le _, Nat.zero_le _⟩) hP hD hS hA [1, 2, 3, 4, 5, 6, 7, 8, 9] rfl (fun _ => rfl) (fun _ => kRows_fst) (fun u H locs hr1 hP hD hS => ?_)
  obtain ⟨u2, u3, u4, u5, u6, u7, u8⟩ := u
  have hP : va_P D vwCl ([(px, .inr (6, [.ref h0, .ref hc, .ref so, .ref hp, .ref ho, .ref hh, .ref sl, .ref fl])), (so, .inr (5, [.ref h0, .ref mo, .ref ga, .ref pla, .int (iz (u2)), .int (iz (ve)), .ref ea, .ref ah, .ref ia])), (mo, .inl (T 1, 25, .inr (.inr (.inr (.inr (fun i => some (rw i))))))), (ga, .inl (T 0, 31, .inl (zA u4))), (pla, .inl (T 0, 24, .inl (zA u3))), (ea, .inl (T 0, 31, .inl (zA u5))), (ah, .inl (T 0, 330, .inl (zA u6))), (ia, .inl (T 0, 330, .inl (zA u7))), (h0, .inr (2, [.ref h1, .int (iz (ve))])), (h1, .inl (T 0, 115, .inl (zA Z)))] ++ kRows T rw 25 201 u8) H := hP
  have hD : va_D A ([(px, .inr (6, [.ref h0, .ref hc, .ref so, .ref hp, .ref ho, .ref hh, .ref sl, .ref fl])), (so, .inr (5, [.ref h0, .ref mo, .ref ga, .ref pla, .int (iz (u2)), .int (iz (ve)), .ref ea, .ref ah, .ref ia])), (mo, .inl (T 1, 25, .inr (.inr (.inr (.inr (fun i => some (rw i))))))), (ga, .inl (T 0, 31, .inl (zA u4))), (pla, .inl (T 0, 24, .inl (zA u3))), (ea, .inl (T 0, 31, .inl (zA u5))), (ah, .inl (T 0, 330, .inl (zA u6))), (ia, .inl (T 0, 330, .inl (zA u7))), (h0, .inr (2, [.ref h1, .int (iz (ve))])), (h1, .inl (T 0, 115, .inl (zA Z)))] ++ kRows T rw 25 201 u8) := hD
  try dsimp only at hr1
  obtain ⟨hMS, hfo, hpl⟩ := hr1
  refine lv_aload_n hx hb dX6_adoptBest_7 rfl (lv_at hl 0 rfl) ?_
  refine va_get (D := D) (ci := 6) (C := RX6) (T := TX6) (N := 8) hx hb hts w1 hown hK.1 hP 0 rfl rfl 2 (by decide) w0 (fun _ h9 => h9) rfl dX6_adoptBest_8 ?_
  refine va_getN (D := D) (ci := 5) (C := RX5) (T := TX5) (N := 9) hx hb hts w5 hown hK.1 hP 1 rfl rfl 4 (by decide) (kb_RX6_187 hK) (fun _ h9 => h9) rfl dX6_adoptBest_11 ?_
  have hf01 : u2 = 0 ∨ u2 = 1 := by rw [hfo]; split <;> omega
  refine kz_if_ne (tgt := 20) hx hb dX6_adoptBest_14 (by decide) (by omega) (fun c14 => ?_) (fun c14 => ?_)
  · have hne : bv NOP Z 24 (Z 7) ≠ NOP := fun q => by rw [if_pos q] at hfo; omega
    refine lv_iconst (v := iz (0)) hx hb dX6_adoptBest_20 (by decide) ?_
    refine lv_istore_n (lv' := [(1, .int (iz (0))), (0, .ref px)]) hx hb dX6_adoptBest_21 rfl hl (by decide) rfl (fun ls hl => ?_)
    refine lv_iconst (v := iz (0)) hx hb dX6_adoptBest_22 (by decide) ?_
    refine lv_istore_n (lv' := [(2, .int (iz (0))), (1, .int (iz (0))), (0, .ref px)]) hx hb dX6_adoptBest_23 rfl hl (by decide) rfl (fun ls hl => ?_)
    have hl : lv_has ls 3 [(2, .int (iz (0))), (1, .int (iz (ad_c Z 0))), (0, .ref px)] := by rw [← (show (0 : Int) = ad_c Z 0 from rfl)]; exact hl
    have hl : lv_has ls 3 [(2, .int (iz (((0 : Nat) : Int)))), (1, .int (iz (ad_c Z 0))), (0, .ref px)] := by rw [← (show (0 : Int) = ((0 : Nat) : Int) from (by first | rfl | omega))]; exact hl
    have hZ : (Z : Nat → Int) = pl_ad Z 0 := (pl_ad_0 Z)
    have hP : va_P D vwCl ([(px, .inr (6, [.ref h0, .ref hc, .ref so, .ref hp, .ref ho, .ref hh, .ref sl, .ref fl])), (so, .inr (5, [.ref h0, .ref mo, .ref ga, .ref pla, .int (iz (u2)), .int (iz (ve)), .ref ea, .ref ah, .ref ia])), (mo, .inl (T 1, 25, .inr (.inr (.inr (.inr (fun i => some (rw i))))))), (ga, .inl (T 0, 31, .inl (zA u4))), (pla, .inl (T 0, 24, .inl (zA u3))), (ea, .inl (T 0, 31, .inl (zA u5))), (ah, .inl (T 0, 330, .inl (zA u6))), (ia, .inl (T 0, 330, .inl (zA u7))), (h0, .inr (2, [.ref h1, .int (iz (ve))])), (h1, .inl (T 0, 115, .inl (zA (pl_ad Z 0))))] ++ kRows T rw 25 201 u8) H := by rw [← hZ]; exact hP
    have hD : va_D A ([(px, .inr (6, [.ref h0, .ref hc, .ref so, .ref hp, .ref ho, .ref hh, .ref sl, .ref fl])), (so, .inr (5, [.ref h0, .ref mo, .ref ga, .ref pla, .int (iz (u2)), .int (iz (ve)), .ref ea, .ref ah, .ref ia])), (mo, .inl (T 1, 25, .inr (.inr (.inr (.inr (fun i => some (rw i))))))), (ga, .inl (T 0, 31, .inl (zA u4))), (pla, .inl (T 0, 24, .inl (zA u3))), (ea, .inl (T 0, 31, .inl (zA u5))), (ah, .inl (T 0, 330, .inl (zA u6))), (ia, .inl (T 0, 330, .inl (zA u7))), (h0, .inr (2, [.ref h1, .int (iz (ve))])), (h1, .inl (T 0, 115, .inl (zA (pl_ad Z 0))))] ++ kRows T rw 25 201 u8) := by rw [← hZ]; exact hD
    refine kz_loopW1 (pc := 24) (I := fun (n : Nat) (H : Heap) (locs : List Loc) (ls : Array Slot) => (n ≤ 24) ∧ va_P D vwCl ([(px, .inr (6, [.ref h0, .ref hc, .ref so, .ref hp, .ref ho, .ref hh, .ref sl, .ref fl])), (so, .inr (5, [.ref h0, .ref mo, .ref ga, .ref pla, .int (iz (u2)), .int (iz (ve)), .ref ea, .ref ah, .ref ia])), (mo, .inl (T 1, 25, .inr (.inr (.inr (.inr (fun i => some (rw i))))))), (ga, .inl (T 0, 31, .inl (zA u4))), (pla, .inl (T 0, 24, .inl (zA u3))), (ea, .inl (T 0, 31, .inl (zA u5))), (ah, .inl (T 0, 330, .inl (zA u6))), (ia, .inl (T 0, 330, .inl (zA u7))), (h0, .inr (2, [.ref h1, .int (iz (ve))])), (h1, .inl (T 0, 115, .inl (zA (pl_ad Z n))))] ++ kRows T rw 25 201 u8) H ∧ va_D A ([(px, .inr (6, [.ref h0, .ref hc, .ref so, .ref hp, .ref ho, .ref hh, .ref sl, .ref fl])), (so, .inr (5, [.ref h0, .ref mo, .ref ga, .ref pla, .int (iz (u2)), .int (iz (ve)), .ref ea, .ref ah, .ref ia])), (mo, .inl (T 1, 25, .inr (.inr (.inr (.inr (fun i => some (rw i))))))), (ga, .inl (T 0, 31, .inl (zA u4))), (pla, .inl (T 0, 24, .inl (zA u3))), (ea, .inl (T 0, 31, .inl (zA u5))), (ah, .inl (T 0, 330, .inl (zA u6))), (ia, .inl (T 0, 330, .inl (zA u7))), (h0, .inr (2, [.ref h1, .int (iz (ve))])), (h1, .inl (T 0, 115, .inl (zA (pl_ad Z n))))] ++ kRows T rw 25 201 u8) ∧ va_S A s.heap H locs ∧ lv_has ls 3 [(0, .ref px), (1, .int (iz (ad_c Z n))), (2, .int (iz (((n : Nat) : Int))))]) (μ := fun (n : Nat) => 24 - n) 0 ⟨(by omega), hP, hD, hS, lv_sub hl [2, 1, 0] rfl⟩ ?_
    rintro n H locs ls ⟨hn, hP, hD, hS, hl⟩ ih24
    have hVn := VL_ad hV hne n hn
    have hcr := ad_c_rng Z n
    have e58 : pl_ad Z n (58 + n) = Z (58 + n) := pl_ad_out (by omega)
    refine lv_iload_n hx hb dX6_adoptBest_24 rfl (lv_at hl 2 rfl) ?_
    refine lv_bipush (v := iz (24)) hx hb dX6_adoptBest_25 (by decide) ?_
    refine kz_icmp_ge (tgt := 77) hx hb dX6_adoptBest_27 (by decide) (by omega) (by omega) (fun c27 => ?_) (fun c27 => ?_)
    · have hnn : n = 24 := by omega
      subst hnn
      have hl : lv_has ls 3 [(0, .ref px), (1, .int (iz (ad_c Z 24))), (2, .int (iz (((24 : Nat) : Int))))] := hl
      refine lv_iload_n hx hb dX6_adoptBest_77 rfl (lv_at hl 1 rfl) ?_
      exact W.iret hx hb hr (fun t ht hW => ⟨⟨_, (u2, u3, u4, u5, u6, u7, u8, pl_ad Z 24), rfl, ⟨congrArg iz (by rw [if_neg hne]), ad_SOL (fun k hk => pl_ad_out (by omega)) ⟨hMS, hfo, hpl⟩, VL_ad hV hne 24 (Nat.le_refl _), by rw [if_neg hne]⟩, by show va_P _ _ _ t.heap; rw [ht]; exact hP⟩, hS.F ht⟩) hS.2.2 dX6_adoptBest_78
    · have hbn := ((bp_ok hV NOP_le hne n (by omega)).2.2 (by omega)).1
      have hpn := (hV.2.1 n (by omega)).2.2
      refine lv_aload_n hx hb dX6_adoptBest_30 rfl (lv_at hl 0 rfl) ?_
      refine va_get (D := D) (ci := 6) (C := RX6) (T := TX6) (N := 8) hx hb hts w1 hown hK.1 hP 0 rfl rfl 0 (by decide) w6 (fun _ h9 => h9) rfl dX6_adoptBest_31 ?_
      refine lv_iload_n hx hb dX6_adoptBest_34 rfl (lv_at hl 2 rfl) ?_
      refine kc_i (va_runVN (As := [.int (iz (((n : Nat) : Int)))]) (rest := []) ⟨hx, hb, hml, hown, hts⟩ (c_X2_planOf l D T h0 h1 (pl_ad Z n) ve n (by omega)) ⟨va_cnB 1 hts gX6_adoptBest_X2_planOf_n108 rfl rfl rfl (kn_RX6_108 hK) w7 (by decide +kernel) ⟨Nat.le_of_ble_eq_true rfl, Nat.le_of_ble_eq_true rfl⟩, w8, w9⟩ (kPc.v hK (va_recv hK.1 hP (ci := 2) (q0 := 8) rfl rfl) (kcut hP [8, 9] rfl)) rfl rfl hl.1 rfl (lv_room (Nat.le_of_ble_eq_true rfl)) dX6_adoptBest_35 ⟨Nat.zero_le _, Nat.zero_le _⟩) (fun r9 hr9 => ?_)
      subst hr9
      refine kz_top (y := Z (58 + n)) e58 ?_
      refine lv_aload_n hx hb dX6_adoptBest_38 rfl (lv_at hl 0 rfl) ?_
      refine va_get (D := D) (ci := 6) (C := RX6) (T := TX6) (N := 8) hx hb hts w1 hown hK.1 hP 0 rfl rfl 2 (by decide) w0 (fun _ h9 => h9) rfl dX6_adoptBest_39 ?_
      refine va_getN (D := D) (ci := 5) (C := RX5) (T := TX5) (N := 9) hx hb hts w5 hown hK.1 hP 1 rfl rfl 3 (by decide) (kb_RX6_191 hK) (fun _ h9 => h9) rfl dX6_adoptBest_42 ?_
      refine lv_iload_n hx hb dX6_adoptBest_45 rfl (lv_at hl 2 rfl) ?_
      refine kz_iald hx hb hK hP (4) rfl (n) (by omega) (by omega) (by omega) dX6_adoptBest_46 ?_
      refine kz_top (y := bp NOP Z n) (hpl hne n (by omega)) ?_
      refine kz_icmp_eq (tgt := 71) hx hb dX6_adoptBest_47 (by decide) (by omega) (by omega) (fun c47 => ?_) (fun c47 => ?_)
      · refine kz_iinc (b := ((n + 1 : Nat) : Int)) (lv' := [(2, .int (iz (((n + 1 : Nat) : Int)))), (0, .ref px), (1, .int (iz (ad_c Z n)))]) hx hb dX6_adoptBest_71 hl (k := 2) rfl (by omega) (by decide) rfl (fun ls hl => ?_)
        refine lv_goto (tgt := 24) hx hb dX6_adoptBest_74 (by decide) ?_
        have hl : lv_has ls 3 [(2, .int (iz (((n + 1 : Nat) : Int)))), (0, .ref px), (1, .int (iz (ad_c Z (n + 1))))] := by rw [← (show (ad_c Z n : Int) = ad_c Z (n + 1) from (by show _ = ad_c Z n + (if Z (58 + n) = bp NOP Z n then 0 else 1); split <;> omega))]; exact hl
        have hZ : (pl_ad Z n : Nat → Int) = pl_ad Z (n + 1) := (by first | exact pl_ad_s (by omega) hbn | exact pl_ad_e (by omega))
        have hP : va_P D vwCl ([(px, .inr (6, [.ref h0, .ref hc, .ref so, .ref hp, .ref ho, .ref hh, .ref sl, .ref fl])), (so, .inr (5, [.ref h0, .ref mo, .ref ga, .ref pla, .int (iz (u2)), .int (iz (ve)), .ref ea, .ref ah, .ref ia])), (mo, .inl (T 1, 25, .inr (.inr (.inr (.inr (fun i => some (rw i))))))), (ga, .inl (T 0, 31, .inl (zA u4))), (pla, .inl (T 0, 24, .inl (zA u3))), (ea, .inl (T 0, 31, .inl (zA u5))), (ah, .inl (T 0, 330, .inl (zA u6))), (ia, .inl (T 0, 330, .inl (zA u7))), (h0, .inr (2, [.ref h1, .int (iz (ve))])), (h1, .inl (T 0, 115, .inl (zA (pl_ad Z (n + 1)))))] ++ kRows T rw 25 201 u8) H := by rw [← hZ]; exact hP
        have hD : va_D A ([(px, .inr (6, [.ref h0, .ref hc, .ref so, .ref hp, .ref ho, .ref hh, .ref sl, .ref fl])), (so, .inr (5, [.ref h0, .ref mo, .ref ga, .ref pla, .int (iz (u2)), .int (iz (ve)), .ref ea, .ref ah, .ref ia])), (mo, .inl (T 1, 25, .inr (.inr (.inr (.inr (fun i => some (rw i))))))), (ga, .inl (T 0, 31, .inl (zA u4))), (pla, .inl (T 0, 24, .inl (zA u3))), (ea, .inl (T 0, 31, .inl (zA u5))), (ah, .inl (T 0, 330, .inl (zA u6))), (ia, .inl (T 0, 330, .inl (zA u7))), (h0, .inr (2, [.ref h1, .int (iz (ve))])), (h1, .inl (T 0, 115, .inl (zA (pl_ad Z (n + 1)))))] ++ kRows T rw 25 201 u8) := by rw [← hZ]; exact hD
        exact ih24 (n + 1) _ _ _ ⟨(by omega), hP, hD, hS, lv_sub hl [1, 2, 0] rfl⟩ (by omega)
      · refine kz_iinc (b := (ad_c Z n) + 1) (lv' := [(1, .int (iz ((ad_c Z n) + 1))), (0, .ref px), (2, .int (iz (((n : Nat) : Int))))]) hx hb dX6_adoptBest_50 hl (k := 1) rfl (by omega) (by decide) rfl (fun ls hl => ?_)
        refine lv_aload_n hx hb dX6_adoptBest_53 rfl (lv_at hl 1 rfl) ?_
        refine va_get (D := D) (ci := 6) (C := RX6) (T := TX6) (N := 8) hx hb hts w1 hown hK.1 hP 0 rfl rfl 0 (by decide) w6 (fun _ h9 => h9) rfl dX6_adoptBest_54 ?_
        refine lv_iload_n hx hb dX6_adoptBest_57 rfl (lv_at hl 2 rfl) ?_
        refine lv_aload_n hx hb dX6_adoptBest_58 rfl (lv_at hl 1 rfl) ?_
        refine va_get (D := D) (ci := 6) (C := RX6) (T := TX6) (N := 8) hx hb hts w1 hown hK.1 hP 0 rfl rfl 2 (by decide) w0 (fun _ h9 => h9) rfl dX6_adoptBest_59 ?_
        refine va_getN (D := D) (ci := 5) (C := RX5) (T := TX5) (N := 9) hx hb hts w5 hown hK.1 hP 1 rfl rfl 3 (by decide) (kb_RX6_191 hK) (fun _ h9 => h9) rfl dX6_adoptBest_62 ?_
        refine lv_iload_n hx hb dX6_adoptBest_65 rfl (lv_at hl 2 rfl) ?_
        refine kz_iald hx hb hK hP (4) rfl (n) (by omega) (by omega) (by omega) dX6_adoptBest_66 ?_
        refine kz_top (y := bp NOP Z n) (hpl hne n (by omega)) ?_
        refine kc_wi (va_runVN (As := [.int (iz (((n : Nat) : Int))), .int (iz (bp NOP Z n))]) (rest := []) ⟨hx, hb, hml, hown, hts⟩ (c_X2_changePlan l D T H.size h0 h1 (pl_ad Z n) ve ((n : Nat) : Int) (bp NOP Z n) (by omega) (by omega) hVn) ⟨va_cnB 2 hts gX6_adoptBest_X2_changePlan_n81 rfl rfl rfl (kn_RX6_81 hK) w7 (by decide +kernel) ⟨Nat.le_of_ble_eq_true rfl, Nat.le_of_ble_eq_true rfl⟩, w10, w11⟩ (kPc.v hK (va_recv hK.1 hP (ci := 2) (q0 := 8) rfl rfl) (kW.cut hP hD [8, 9] rfl (by rfl))) rfl rfl hl.1 rfl (lv_room (Nat.le_of_ble_eq_true rfl)) dX6_adoptBest_67 ⟨Nat.zero_le _, Nat.zero_le _⟩) hP hD hS hA [8, 9] rfl (fun _ => rfl) (fun r10 u H locs hr10 hP hD hS => ?_)
        have hP : va_P D vwCl ([(px, .inr (6, [.ref h0, .ref hc, .ref so, .ref hp, .ref ho, .ref hh, .ref sl, .ref fl])), (so, .inr (5, [.ref h0, .ref mo, .ref ga, .ref pla, .int (iz (u2)), .int (iz (ve)), .ref ea, .ref ah, .ref ia])), (mo, .inl (T 1, 25, .inr (.inr (.inr (.inr (fun i => some (rw i))))))), (ga, .inl (T 0, 31, .inl (zA u4))), (pla, .inl (T 0, 24, .inl (zA u3))), (ea, .inl (T 0, 31, .inl (zA u5))), (ah, .inl (T 0, 330, .inl (zA u6))), (ia, .inl (T 0, 330, .inl (zA u7))), (h0, .inr (2, [.ref h1, .int (iz (ve))])), (h1, .inl (T 0, 115, .inl (zA (lk_zPlan (pl_ad Z n) ((n : Nat) : Int) (bp NOP Z n)))))] ++ kRows T rw 25 201 u8) H := hP
        have hD : va_D A ([(px, .inr (6, [.ref h0, .ref hc, .ref so, .ref hp, .ref ho, .ref hh, .ref sl, .ref fl])), (so, .inr (5, [.ref h0, .ref mo, .ref ga, .ref pla, .int (iz (u2)), .int (iz (ve)), .ref ea, .ref ah, .ref ia])), (mo, .inl (T 1, 25, .inr (.inr (.inr (.inr (fun i => some (rw i))))))), (ga, .inl (T 0, 31, .inl (zA u4))), (pla, .inl (T 0, 24, .inl (zA u3))), (ea, .inl (T 0, 31, .inl (zA u5))), (ah, .inl (T 0, 330, .inl (zA u6))), (ia, .inl (T 0, 330, .inl (zA u7))), (h0, .inr (2, [.ref h1, .int (iz (ve))])), (h1, .inl (T 0, 115, .inl (zA (lk_zPlan (pl_ad Z n) ((n : Nat) : Int) (bp NOP Z n)))))] ++ kRows T rw 25 201 u8) := hD
        subst hr10
        refine lv_pop hx hb dX6_adoptBest_70 rfl ?_
        refine kz_iinc (b := ((n + 1 : Nat) : Int)) (lv' := [(2, .int (iz (((n + 1 : Nat) : Int)))), (1, .int (iz ((ad_c Z n) + 1))), (0, .ref px)]) hx hb dX6_adoptBest_71 hl (k := 2) rfl (by omega) (by decide) rfl (fun ls hl => ?_)
        refine lv_goto (tgt := 24) hx hb dX6_adoptBest_74 (by decide) ?_
        have hl : lv_has ls 3 [(2, .int (iz (((n + 1 : Nat) : Int)))), (1, .int (iz (ad_c Z (n + 1)))), (0, .ref px)] := by rw [← (show ((ad_c Z n) + 1 : Int) = ad_c Z (n + 1) from (by show _ = ad_c Z n + (if Z (58 + n) = bp NOP Z n then 0 else 1); split <;> omega))]; exact hl
        have hZ : (lk_zPlan (pl_ad Z n) ((n : Nat) : Int) (bp NOP Z n) : Nat → Int) = pl_ad Z (n + 1) := (by first | exact pl_ad_s (by omega) hbn | exact pl_ad_e (by omega))
        have hP : va_P D vwCl ([(px, .inr (6, [.ref h0, .ref hc, .ref so, .ref hp, .ref ho, .ref hh, .ref sl, .ref fl])), (so, .inr (5, [.ref h0, .ref mo, .ref ga, .ref pla, .int (iz (u2)), .int (iz (ve)), .ref ea, .ref ah, .ref ia])), (mo, .inl (T 1, 25, .inr (.inr (.inr (.inr (fun i => some (rw i))))))), (ga, .inl (T 0, 31, .inl (zA u4))), (pla, .inl (T 0, 24, .inl (zA u3))), (ea, .inl (T 0, 31, .inl (zA u5))), (ah, .inl (T 0, 330, .inl (zA u6))), (ia, .inl (T 0, 330, .inl (zA u7))), (h0, .inr (2, [.ref h1, .int (iz (ve))])), (h1, .inl (T 0, 115, .inl (zA (pl_ad Z (n + 1)))))] ++ kRows T rw 25 201 u8) H := by rw [← hZ]; exact hP
        have hD : va_D A ([(px, .inr (6, [.ref h0, .ref hc, .ref so, .ref hp, .ref ho, .ref hh, .ref sl, .ref fl])), (so, .inr (5, [.ref h0, .ref mo, .ref ga, .ref pla, .int (iz (u2)), .int (iz (ve)), .ref ea, .ref ah, .ref ia])), (mo, .inl (T 1, 25, .inr (.inr (.inr (.inr (fun i => some (rw i))))))), (ga, .inl (T 0, 31, .inl (zA u4))), (pla, .inl (T 0, 24, .inl (zA u3))), (ea, .inl (T 0, 31, .inl (zA u5))), (ah, .inl (T 0, 330, .inl (zA u6))), (ia, .inl (T 0, 330, .inl (zA u7))), (h0, .inr (2, [.ref h1, .int (iz (ve))])), (h1, .inl (T 0, 115, .inl (zA (pl_ad Z (n + 1)))))] ++ kRows T rw 25 201 u8) := by rw [← hZ]; exact hD
        exact ih24 (n + 1) _ _ _ ⟨(by omega), hP, hD, hS, lv_sub hl [2, 1, 0] rfl⟩ (by omega)
  · have hne : bv NOP Z 24 (Z 7) = NOP := Decidable.byContradiction (fun q => by rw [if_neg q] at hfo; omega)
    refine lv_bipush (v := iz (-5)) hx hb dX6_adoptBest_17 (by decide) ?_
    exact W.iret hx hb hr (fun t ht hW => ⟨⟨_, (u2, u3, u4, u5, u6, u7, u8, Z), rfl, ⟨congrArg iz (by rw [if_pos hne]), ⟨hMS, hfo, hpl⟩, hV, by rw [if_pos hne]⟩, by show va_P _ _ _ t.heap; rw [ht]; exact hP⟩, hS.F ht⟩) hS.2.2 dX6_adoptBest_19
