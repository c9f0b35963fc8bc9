set_option maxHeartbeats 4000000 in
set_option maxRecDepth 100000 in
theorem c_X5_mostFrom (l : Launch) (D : va_G) (T : Nat → ClassId) (so : Nat) (mo : Nat) (ga : Nat) (pla : Nat) (ea : Nat) (ah : Nat) (ia : Nat) (fo : Int) (sv : Int) (h0 : Nat) (rw : Nat → Nat) (M : Nat → Nat → Int) (k : Nat) (hk : k ≤ 24) (lev : Int) (hle : 0 ≤ lev ∧ lev ≤ 200) : Met l yX5_mostFrom wsX5_mostFrom ({ frames := 0, cells := 0, slots := 0, locals := 0 }) (kPc D T [.ref so, .int (iz (((k : Nat) : Int))), .int (iz (lev))] (va_P D vwCl ([(so, .inr (5, [.ref h0, .ref mo, .ref ga, .ref pla, .int (iz (fo)), .int (iz (sv)), .ref ea, .ref ah, .ref ia])), (mo, .inl (T 1, 25, .inr (.inr (.inr (.inr (fun i => some (rw i)))))))] ++ kRows T rw 25 201 M))) (vp_Si (fun r : Int32 => r = iz (M k lev.toNat))) 0 0 (fun _ => False) := by
  refine Met.ofW (cc := cX5_mostFrom) (maxL := 3) (ret := (some .int)) (by decide) rfl ?_
  intro p e s m args below meth c s₁ B hml hv
  obtain ⟨rfl, hK, hP⟩ := hv
  have hx := B.exec
  have hb := B.bytes
  have hr := B.returns
  have hts := atoms_spec (ws := wsX5_mostFrom) B.pre
  have hown : s.vm.findClass RX5 = some m.cls := findClass_of_methodNamed B.named
  have hlocks := B.notSynchronized
  have w0 := hts (.fieldLink RX5 11 "LakePlant$Search" "most" "[[I") (List.mem_of_getElem? (i := 2) rfl)
  have w1 : ∀ w ∈ wsX50, w ∈ wsX5_mostFrom := by decide +kernel
  have hP : va_P D vwCl ([(so, .inr (5, [.ref h0, .ref mo, .ref ga, .ref pla, .int (iz (fo)), .int (iz (sv)), .ref ea, .ref ah, .ref ia])), (mo, .inl (T 1, 25, .inr (.inr (.inr (.inr (fun i => some (rw i)))))))] ++ kRows T rw 25 201 M) s.heap := hP
  have hl := lv_entry ([.ref so, .int (iz (((k : Nat) : Int))), .int (iz (lev))]) (n := 3) (Nat.le_of_ble_eq_true rfl)
  rw [lg_entry_eq]
  generalize (lg_sl ([.ref so, .int (iz (((k : Nat) : Int))), .int (iz (lev))]) ++ List.replicate (3 - (lg_sl ([.ref so, .int (iz (((k : Nat) : Int))), .int (iz (lev))])).length) Slot.unset).toArray = ls at hl ⊢
  have hl : lv_has ls 3 [(0, .ref so), (1, .int (iz (((k : Nat) : Int)))), (2, .int (iz (lev)))] := hl
  refine lv_iload_n hx hb dX5_mostFrom_0 rfl (lv_at hl 1 rfl) ?_
  refine kz_if_lt (tgt := 21) hx hb dX5_mostFrom_1 (by decide) (by omega) (fun c1 => False.elim (by omega)) (fun c1 => ?_)
  refine lv_iload_n hx hb dX5_mostFrom_4 rfl (lv_at hl 1 rfl) ?_
  refine lv_bipush (v := iz (24)) hx hb dX5_mostFrom_5 (by decide) ?_
  refine kz_icmp_gt (tgt := 21) hx hb dX5_mostFrom_7 (by decide) (by omega) (by omega) (fun c7 => False.elim (by omega)) (fun c7 => ?_)
  refine lv_iload_n hx hb dX5_mostFrom_10 rfl (lv_at hl 2 rfl) ?_
  refine kz_if_lt (tgt := 21) hx hb dX5_mostFrom_11 (by decide) (by omega) (fun c11 => False.elim (by omega)) (fun c11 => ?_)
  refine lv_iload_n hx hb dX5_mostFrom_14 rfl (lv_at hl 2 rfl) ?_
  refine lv_sipush (v := iz (200)) hx hb dX5_mostFrom_15 (by decide) ?_
  refine kz_icmp_le (tgt := 24) hx hb dX5_mostFrom_18 (by decide) (by omega) (by omega) (fun c18 => ?_) (fun c18 => False.elim (by omega))
  refine lv_aload_n hx hb dX5_mostFrom_24 rfl (lv_at hl 0 rfl) ?_
  refine va_get (D := D) (ci := 5) (C := RX5) (T := TX5) (N := 9) hx hb hts w1 hown hK.1 hP 0 rfl rfl 1 (by decide) w0 (fun _ h9 => h9) rfl dX5_mostFrom_25 ?_
  refine lv_iload_n hx hb dX5_mostFrom_28 rfl (lv_at hl 1 rfl) ?_
  refine kz_aald hx hb hK hP 1 rfl (k) (by omega) (by omega) (by omega) (y := rw k) rfl dX5_mostFrom_29 ?_
  refine lv_iload_n hx hb dX5_mostFrom_30 rfl (lv_at hl 2 rfl) ?_
  refine kz_iald hx hb hK hP (2 + k) (kRows_get (X := [(so, .inr (5, [.ref h0, .ref mo, .ref ga, .ref pla, .int (iz (fo)), .int (iz (sv)), .ref ea, .ref ah, .ref ia])), (mo, .inl (T 1, 25, .inr (.inr (.inr (.inr (fun i => some (rw i)))))))]) (by omega)) ((lev).toNat) (by omega) (by omega) (by omega) dX5_mostFrom_31 ?_
  exact W.iret hx hb hr (fun t ht _ => ⟨_, rfl, rfl, ht⟩) (fun _ h => absurd h List.not_mem_nil) dX5_mostFrom_32
set_option maxHeartbeats 4000000 in
set_option maxRecDepth 100000 in
theorem c_X5_mostWith (l : Launch) (D : va_G) (T : Nat → ClassId) (so : Nat) (mo : Nat) (ga : Nat) (pla : Nat) (ea : Nat) (ah : Nat) (ia : Nat) (fo : Int) (sv : Int) (h0 : Nat) (Ea : Nat → Int) (Ah : Nat → Int) (fl : Int) (dd : Int) (hf : -1000000 ≤ fl ∧ fl ≤ 1000000) (hd : -1000000 ≤ dd ∧ dd ≤ 1000000) (hea : ∀ r : Nat, r < 31 → -200000 ≤ Ea r ∧ Ea r ≤ 200000) (hah : ∀ r : Nat, r < 330 → -1000000000 ≤ Ah r ∧ Ah r ≤ 1000000000) : Met l yX5_mostWith wsX5_mostWith ({ frames := 0, cells := 0, slots := 0, locals := 0 }) (kPc D T [.ref so, .int (iz (fl)), .int (iz (dd))] (va_P D vwCl [(so, .inr (5, [.ref h0, .ref mo, .ref ga, .ref pla, .int (iz (fo)), .int (iz (sv)), .ref ea, .ref ah, .ref ia])), (ea, .inl (T 0, 31, .inl (zA Ea))), (ah, .inl (T 0, 330, .inl (zA Ah)))])) (vp_Si (fun r : Int32 => r = iz (mwF Ah Ea fl dd))) 0 0 (fun _ => False) := by
  refine Met.ofW (cc := cX5_mostWith) (maxL := 4) (ret := (some .int)) (by decide) rfl ?_
  intro p e s m args below meth c s₁ B hml hv
  obtain ⟨rfl, hK, hP⟩ := hv
  have hx := B.exec
  have hb := B.bytes
  have hr := B.returns
  have hts := atoms_spec (ws := wsX5_mostWith) B.pre
  have hown : s.vm.findClass RX5 = some m.cls := findClass_of_methodNamed B.named
  have hlocks := B.notSynchronized
  have w0 := hts (.constant RX5 53 (-1000000000)) (List.mem_of_getElem? (i := 2) rfl)
  have w1 := hts (.fieldLink RX5 34 "LakePlant$Search" "ahead" "[I") (List.mem_of_getElem? (i := 1) rfl)
  have w2 : ∀ w ∈ wsX50, w ∈ wsX5_mostWith := by decide +kernel
  have w3 := hts (.fieldLink RX5 31 "LakePlant$Search" "earned" "[I") (List.mem_of_getElem? (i := 3) rfl)
  have hP : va_P D vwCl [(so, .inr (5, [.ref h0, .ref mo, .ref ga, .ref pla, .int (iz (fo)), .int (iz (sv)), .ref ea, .ref ah, .ref ia])), (ea, .inl (T 0, 31, .inl (zA Ea))), (ah, .inl (T 0, 330, .inl (zA Ah)))] s.heap := hP
  have hl := lv_entry ([.ref so, .int (iz (fl)), .int (iz (dd))]) (n := 4) (Nat.le_of_ble_eq_true rfl)
  rw [lg_entry_eq]
  generalize (lg_sl ([.ref so, .int (iz (fl)), .int (iz (dd))]) ++ List.replicate (4 - (lg_sl ([.ref so, .int (iz (fl)), .int (iz (dd))])).length) Slot.unset).toArray = ls at hl ⊢
  have hl : lv_has ls 4 [(0, .ref so), (1, .int (iz (fl))), (2, .int (iz (dd)))] := hl
  refine lv_iload_n hx hb dX5_mostWith_0 rfl (lv_at hl 1 rfl) ?_
  refine lv_iload_n hx hb dX5_mostWith_1 rfl (lv_at hl 2 rfl) ?_
  refine kz_sub hx hb dX5_mostWith_2 ?_
  refine lv_istore_n (lv' := [(3, .int (iz (fl - dd))), (0, .ref so), (1, .int (iz (fl))), (2, .int (iz (dd)))]) hx hb dX5_mostWith_3 rfl hl (by decide) rfl (fun ls hl => ?_)
  refine lv_iload_n hx hb dX5_mostWith_4 rfl (lv_at hl 3 rfl) ?_
  refine kz_if_lt (tgt := 36) hx hb dX5_mostWith_5 (by decide) (by omega) (fun c5 => ?_) (fun c5 => ?_)
  · refine lv_ldc (v := (-1000000000 : Int32)) hx hb hown w0 dX5_mostWith_36 ?_
    refine W.eq (g2 := F0 m 38 ls (.int (iz (-1000000000)) :: [])) (by rw [show iz (-1000000000) = (-1000000000 : Int32) from by decide]) ?_
    exact W.iret hx hb hr (fun t ht _ => ⟨_, rfl, (congrArg iz (by unfold mwF; split <;> omega)), ht⟩) (fun _ h => absurd h List.not_mem_nil) dX5_mostWith_38
  · refine lv_iload_n hx hb dX5_mostWith_8 rfl (lv_at hl 3 rfl) ?_
    refine lv_bipush (v := iz (30)) hx hb dX5_mostWith_9 (by decide) ?_
    refine kz_icmp_gt (tgt := 36) hx hb dX5_mostWith_11 (by decide) (by omega) (by omega) (fun c11 => ?_) (fun c11 => ?_)
    · refine lv_ldc (v := (-1000000000 : Int32)) hx hb hown w0 dX5_mostWith_36 ?_
      refine W.eq (g2 := F0 m 38 ls (.int (iz (-1000000000)) :: [])) (by rw [show iz (-1000000000) = (-1000000000 : Int32) from by decide]) ?_
      exact W.iret hx hb hr (fun t ht _ => ⟨_, rfl, (congrArg iz (by unfold mwF; split <;> omega)), ht⟩) (fun _ h => absurd h List.not_mem_nil) dX5_mostWith_38
    · refine lv_iload_n hx hb dX5_mostWith_14 rfl (lv_at hl 0 rfl) ?_
      refine kz_if_lt (tgt := 36) hx hb dX5_mostWith_15 (by decide) (by omega) (fun c15 => ?_) (fun c15 => ?_)
      · refine lv_ldc (v := (-1000000000 : Int32)) hx hb hown w0 dX5_mostWith_36 ?_
        refine W.eq (g2 := F0 m 38 ls (.int (iz (-1000000000)) :: [])) (by rw [show iz (-1000000000) = (-1000000000 : Int32) from by decide]) ?_
        exact W.iret hx hb hr (fun t ht _ => ⟨_, rfl, (congrArg iz (by unfold mwF; split <;> omega)), ht⟩) (fun _ h => absurd h List.not_mem_nil) dX5_mostWith_38
      · refine lv_iload_n hx hb dX5_mostWith_18 rfl (lv_at hl 0 rfl) ?_
        refine lv_sipush (v := iz (329)) hx hb dX5_mostWith_19 (by decide) ?_
        refine kz_icmp_gt (tgt := 36) hx hb dX5_mostWith_22 (by decide) (by omega) (by omega) (fun c22 => ?_) (fun c22 => ?_)
        · refine lv_ldc (v := (-1000000000 : Int32)) hx hb hown w0 dX5_mostWith_36 ?_
          refine W.eq (g2 := F0 m 38 ls (.int (iz (-1000000000)) :: [])) (by rw [show iz (-1000000000) = (-1000000000 : Int32) from by decide]) ?_
          exact W.iret hx hb hr (fun t ht _ => ⟨_, rfl, (congrArg iz (by unfold mwF; split <;> omega)), ht⟩) (fun _ h => absurd h List.not_mem_nil) dX5_mostWith_38
        · have hb1 := hah (fl - dd).toNat (by omega)
          refine lv_aload_n hx hb dX5_mostWith_25 rfl (lv_at hl 1 rfl) ?_
          refine va_get (D := D) (ci := 5) (C := RX5) (T := TX5) (N := 9) hx hb hts w2 hown hK.1 hP 0 rfl rfl 7 (by decide) w1 (fun _ h9 => h9) rfl dX5_mostWith_26 ?_
          refine lv_iload_n hx hb dX5_mostWith_29 rfl (lv_at hl 0 rfl) ?_
          refine kz_iald hx hb hK hP (2) rfl ((fl - dd).toNat) (by omega) (by omega) (by omega) dX5_mostWith_30 ?_
          refine lv_ldc (v := (-1000000000 : Int32)) hx hb hown w0 dX5_mostWith_31 ?_
          refine W.eq (g2 := F0 m 33 ls (.int (iz (-1000000000)) :: [.int (iz (Ah ((fl - dd).toNat)))])) (by rw [show iz (-1000000000) = (-1000000000 : Int32) from by decide]) ?_
          refine kz_icmp_ne (tgt := 39) hx hb dX5_mostWith_33 (by decide) (by omega) (by omega) (fun c33 => ?_) (fun c33 => ?_)
          · refine lv_aload_n hx hb dX5_mostWith_39 rfl (lv_at hl 1 rfl) ?_
            refine va_get (D := D) (ci := 5) (C := RX5) (T := TX5) (N := 9) hx hb hts w2 hown hK.1 hP 0 rfl rfl 7 (by decide) w1 (fun _ h9 => h9) rfl dX5_mostWith_40 ?_
            refine lv_iload_n hx hb dX5_mostWith_43 rfl (lv_at hl 0 rfl) ?_
            refine kz_iald hx hb hK hP (2) rfl ((fl - dd).toNat) (by omega) (by omega) (by omega) dX5_mostWith_44 ?_
            refine lv_aload_n hx hb dX5_mostWith_45 rfl (lv_at hl 1 rfl) ?_
            refine va_get (D := D) (ci := 5) (C := RX5) (T := TX5) (N := 9) hx hb hts w2 hown hK.1 hP 0 rfl rfl 6 (by decide) w3 (fun _ h9 => h9) rfl dX5_mostWith_46 ?_
            refine lv_iload_n hx hb dX5_mostWith_49 rfl (lv_at hl 3 rfl) ?_
            refine kz_iald hx hb hK hP (1) rfl ((dd).toNat) (by omega) (by omega) (by omega) dX5_mostWith_50 ?_
            refine kz_add hx hb dX5_mostWith_51 ?_
            exact W.iret hx hb hr (fun t ht _ => ⟨_, rfl, (congrArg iz (by unfold mwF; split <;> omega)), ht⟩) (fun _ h => absurd h List.not_mem_nil) dX5_mostWith_52
          · refine lv_ldc (v := (-1000000000 : Int32)) hx hb hown w0 dX5_mostWith_36 ?_
            refine W.eq (g2 := F0 m 38 ls (.int (iz (-1000000000)) :: [])) (by rw [show iz (-1000000000) = (-1000000000 : Int32) from by decide]) ?_
            exact W.iret hx hb hr (fun t ht _ => ⟨_, rfl, (congrArg iz (by unfold mwF; split <;> omega)), ht⟩) (fun _ h => absurd h List.not_mem_nil) dX5_mostWith_38
set_option maxHeartbeats 4000000 in
set_option maxRecDepth 100000 in
theorem c_X5_mostByPumping (l : Launch) (D : va_G) (T : Nat → ClassId) (so : Nat) (mo : Nat) (ga : Nat) (pla : Nat) (ea : Nat) (ah : Nat) (ia : Nat) (fo : Int) (sv : Int) (h0 : Nat) (h1 : Nat) (Z : Nat → Int) (ve : Int) (Ga : Nat → Int) (Id : Nat → Int) (fl : Int) (pr : Int) (hV : VL Z) (hf : 0 ≤ fl ∧ fl ≤ 1000) (hp : 0 ≤ pr ∧ pr ≤ 999) (hga : ∀ r : Nat, r < 31 → -1000 ≤ Ga r ∧ Ga r ≤ 1000) (hia : ∀ r : Nat, r < 330 → -1000200000 ≤ Id r ∧ Id r ≤ 1000200000) : Met l yX5_mostByPumping wsX5_mostByPumping ({ frames := 1, cells := 0, slots := 0, locals := 21 }) (kPc D T [.ref so, .int (iz (fl)), .int (iz (pr))] (va_P D vwCl [(so, .inr (5, [.ref h0, .ref mo, .ref ga, .ref pla, .int (iz (fo)), .int (iz (sv)), .ref ea, .ref ah, .ref ia])), (ga, .inl (T 0, 31, .inl (zA Ga))), (ia, .inl (T 0, 330, .inl (zA Id))), (h0, .inr (2, [.ref h1, .int (iz (ve))])), (h1, .inl (T 0, 115, .inl (zA Z)))])) (vp_Si (fun r : Int32 => r = iz (mpF Id Ga fl pr ((Z 0) + 1).toNat))) 0 0 (fun _ => False) := by
  refine Met.ofW (cc := cX5_mostByPumping) (maxL := 7) (ret := (some .int)) (by decide) rfl ?_
  intro p e s m args below meth c s₁ B hml hv
  obtain ⟨rfl, hK, hP⟩ := hv
  have hx := B.exec
  have hb := B.bytes
  have hr := B.returns
  have hts := atoms_spec (ws := wsX5_mostByPumping) B.pre
  have hown : s.vm.findClass RX5 = some m.cls := findClass_of_methodNamed B.named
  have hlocks := B.notSynchronized
  have w0 := hts (.fieldLink RX5 40 "LakePlant$Search" "lake" "LLakePlant$Lake;") (List.mem_of_getElem? (i := 1) rfl)
  have w1 : ∀ w ∈ wsX50, w ∈ wsX5_mostByPumping := by decide +kernel
  have w2 := hts (.initialized RX2) (List.mem_of_getElem? (i := 13) rfl)
  have w3 := hts (.instanceMethod yX2_settingOf) (List.mem_of_getElem? (i := 12) rfl)
  have w4 := hts (.selects RX2 yX2_settingOf yX2_settingOf) (List.mem_of_getElem? (i := 14) rfl)
  have w5 := hts (.methodLink RX5 87 Lib.Math.min.name) (List.mem_of_getElem? (i := 2) rfl)
  have w6 := hts (.static Lib.Math.min.name) (List.mem_of_getElem? (i := 3) rfl)
  have w7 := hts (.initialized "java/lang/Math") (List.mem_of_getElem? (i := 4) rfl)
  have w8 := hts (.code Lib.Math.min.name Lib.Math.min.code 2 (some .int)) (List.mem_of_getElem? (i := 5) rfl)
  have w9 := hts (.constant RX5 53 (-1000000000)) (List.mem_of_getElem? (i := 6) rfl)
  have w10 := hts (.fieldLink RX5 16 "LakePlant$Search" "gained" "[I") (List.mem_of_getElem? (i := 7) rfl)
  have w11 := hts (.fieldLink RX5 37 "LakePlant$Search" "idle" "[I") (List.mem_of_getElem? (i := 8) rfl)
  have w12 := hts (.methodLink RX5 104 Lib.Math.max.name) (List.mem_of_getElem? (i := 9) rfl)
  have w13 := hts (.static Lib.Math.max.name) (List.mem_of_getElem? (i := 10) rfl)
  have w14 := hts (.code Lib.Math.max.name Lib.Math.max.code 2 (some .int)) (List.mem_of_getElem? (i := 11) rfl)
  have hP : va_P D vwCl [(so, .inr (5, [.ref h0, .ref mo, .ref ga, .ref pla, .int (iz (fo)), .int (iz (sv)), .ref ea, .ref ah, .ref ia])), (ga, .inl (T 0, 31, .inl (zA Ga))), (ia, .inl (T 0, 330, .inl (zA Id))), (h0, .inr (2, [.ref h1, .int (iz (ve))])), (h1, .inl (T 0, 115, .inl (zA Z)))] s.heap := hP
  have hl := lv_entry ([.ref so, .int (iz (fl)), .int (iz (pr))]) (n := 7) (Nat.le_of_ble_eq_true rfl)
  rw [lg_entry_eq]
  generalize (lg_sl ([.ref so, .int (iz (fl)), .int (iz (pr))]) ++ List.replicate (7 - (lg_sl ([.ref so, .int (iz (fl)), .int (iz (pr))])).length) Slot.unset).toArray = ls at hl ⊢
  have hl : lv_has ls 7 [(0, .ref so), (1, .int (iz (fl))), (2, .int (iz (pr)))] := hl
  have hs := hV.1
  unfold VS at hs
  refine lv_aload_n hx hb dX5_mostByPumping_0 rfl (lv_at hl 0 rfl) ?_
  refine va_get (D := D) (ci := 5) (C := RX5) (T := TX5) (N := 9) hx hb hts w1 hown hK.1 hP 0 rfl rfl 0 (by decide) w0 (fun _ h9 => h9) rfl dX5_mostByPumping_1 ?_
  refine lv_iconst (v := iz (0)) hx hb dX5_mostByPumping_4 (by decide) ?_
  refine kz_top (y := ((0 : Nat) : Int)) rfl ?_
  refine kc_i (va_runVN (As := [.int (iz (((0 : Nat) : Int)))]) (rest := []) ⟨hx, hb, hml, hown, hts⟩ (c_X2_settingOf l D T h0 h1 Z ve 0 (by omega)) ⟨va_cnB 1 hts gX5_mostByPumping_X2_settingOf_n49 rfl rfl rfl (kn_RX5_49 hK) w2 (by decide +kernel) ⟨Nat.le_of_ble_eq_true rfl, Nat.le_of_ble_eq_true rfl⟩, w3, w4⟩ (kPc.v hK (va_recv hK.1 hP (ci := 2) (q0 := 3) rfl rfl) (kcut hP [3, 4] rfl)) rfl rfl hl.1 rfl (lv_room (Nat.le_of_ble_eq_true rfl)) dX5_mostByPumping_5 ⟨Nat.zero_le _, Nat.zero_le _⟩) (fun r1 hr1 => ?_)
  subst hr1
  refine lv_bipush (v := iz (30)) hx hb dX5_mostByPumping_8 (by decide) ?_
  refine kz_mmin hx hb (by rw [hml]; exact hl.1.symm) hown w5 w6 w7 w8 (Nat.le_of_ble_eq_true rfl) (Nat.le_of_ble_eq_true rfl) (Nat.zero_le _) (Nat.zero_le _) (by omega) (by omega) dX5_mostByPumping_10 ?_
  refine lv_istore_n (lv' := [(3, .int (iz (min (Z 0) 30))), (0, .ref so), (1, .int (iz (fl))), (2, .int (iz (pr)))]) hx hb dX5_mostByPumping_13 rfl hl (by decide) rfl (fun ls hl => ?_)
  refine lv_ldc (v := (-1000000000 : Int32)) hx hb hown w9 dX5_mostByPumping_14 ?_
  refine W.eq (g2 := F0 m 16 ls (.int (iz (-1000000000)) :: [])) (by rw [show iz (-1000000000) = (-1000000000 : Int32) from by decide]) ?_
  refine lv_istore (lv' := [(4, .int (iz ((-1000000000)))), (3, .int (iz (min (Z 0) 30))), (0, .ref so), (1, .int (iz (fl))), (2, .int (iz (pr)))]) hx hb dX5_mostByPumping_16 hl (by decide) rfl (fun ls hl => ?_)
  refine lv_iconst (v := iz (0)) hx hb dX5_mostByPumping_18 (by decide) ?_
  refine lv_istore (lv' := [(5, .int (iz (0))), (4, .int (iz ((-1000000000)))), (3, .int (iz (min (Z 0) 30))), (0, .ref so), (1, .int (iz (fl))), (2, .int (iz (pr)))]) hx hb dX5_mostByPumping_19 hl (by decide) rfl (fun ls hl => ?_)
  have hl : lv_has ls 7 [(5, .int (iz (0))), (4, .int (iz (mpF Id Ga fl pr 0))), (3, .int (iz (min (Z 0) 30))), (0, .ref so), (1, .int (iz (fl))), (2, .int (iz (pr)))] := by rw [← (show ((-1000000000) : Int) = mpF Id Ga fl pr 0 from rfl)]; exact hl
  have hl : lv_has ls 7 [(5, .int (iz (((0 : Nat) : Int)))), (4, .int (iz (mpF Id Ga fl pr 0))), (3, .int (iz (min (Z 0) 30))), (0, .ref so), (1, .int (iz (fl))), (2, .int (iz (pr)))] := by rw [← (show (0 : Int) = ((0 : Nat) : Int) from (by first | rfl | omega))]; exact hl
  refine kz_loopR1 (pc := 21) (I := fun (n : Nat) (ls : Array Slot) => ((n : Int) ≤ Z 0 + 1) ∧ lv_has ls 7 [(0, .ref so), (1, .int (iz (fl))), (2, .int (iz (pr))), (3, .int (iz (min (Z 0) 30))), (4, .int (iz (mpF Id Ga fl pr n))), (5, .int (iz (((n : Nat) : Int))))]) (μ := fun (n : Nat) => 31 - n) 0 ⟨(by omega), lv_sub hl [3, 4, 5, 2, 1, 0] rfl⟩ ?_
  rintro n ls ⟨hn, hl⟩ ih21
  have hmr := mpF_rng (G := Ga) (f := fl) hia hp n (by omega)
  have hgn := hga n
  have hmp := zmul (a := (n : Int)) (b := pr) (A := 31) (B := 999) (by omega) hp
  refine lv_iload hx hb dX5_mostByPumping_21 (lv_at hl 5 rfl) ?_
  refine lv_iload_n hx hb dX5_mostByPumping_23 rfl (lv_at hl 3 rfl) ?_
  refine kz_icmp_gt (tgt := 88) hx hb dX5_mostByPumping_24 (by decide) (by omega) (by omega) (fun c24 => ?_) (fun c24 => ?_)
  · have hnn : ((Z 0) + 1).toNat = n := by omega
    refine lv_iload hx hb dX5_mostByPumping_88 (lv_at hl 4 rfl) ?_
    exact W.iret hx hb hr (fun t ht _ => ⟨_, rfl, (congrArg iz (by rw [hnn])), ht⟩) (fun _ h => absurd h List.not_mem_nil) dX5_mostByPumping_90
  · refine lv_iload_n hx hb dX5_mostByPumping_27 rfl (lv_at hl 1 rfl) ?_
    refine lv_aload_n hx hb dX5_mostByPumping_28 rfl (lv_at hl 0 rfl) ?_
    refine va_get (D := D) (ci := 5) (C := RX5) (T := TX5) (N := 9) hx hb hts w1 hown hK.1 hP 0 rfl rfl 2 (by decide) w10 (fun _ h9 => h9) rfl dX5_mostByPumping_29 ?_
    refine lv_iload hx hb dX5_mostByPumping_32 (lv_at hl 5 rfl) ?_
    refine kz_iald hx hb hK hP (1) rfl (n) (by omega) (by omega) (by omega) dX5_mostByPumping_34 ?_
    refine kz_add hx hb dX5_mostByPumping_35 ?_
    refine lv_istore (lv' := [(6, .int (iz (fl + (Ga n)))), (0, .ref so), (1, .int (iz (fl))), (2, .int (iz (pr))), (3, .int (iz (min (Z 0) 30))), (4, .int (iz (mpF Id Ga fl pr n))), (5, .int (iz (((n : Nat) : Int))))]) hx hb dX5_mostByPumping_36 hl (by decide) rfl (fun ls hl => ?_)
    refine lv_iload hx hb dX5_mostByPumping_38 (lv_at hl 0 rfl) ?_
    refine kz_if_lt (tgt := 82) hx hb dX5_mostByPumping_40 (by decide) (by omega) (fun c40 => ?_) (fun c40 => ?_)
    · refine kz_iinc (b := ((n + 1 : Nat) : Int)) (lv' := [(5, .int (iz (((n + 1 : Nat) : Int)))), (6, .int (iz (fl + (Ga n)))), (0, .ref so), (1, .int (iz (fl))), (2, .int (iz (pr))), (3, .int (iz (min (Z 0) 30))), (4, .int (iz (mpF Id Ga fl pr n)))]) hx hb dX5_mostByPumping_82 hl (k := 6) rfl (by omega) (by decide) rfl (fun ls hl => ?_)
      refine lv_goto (tgt := 21) hx hb dX5_mostByPumping_85 (by decide) ?_
      have hl : lv_has ls 7 [(5, .int (iz (((n + 1 : Nat) : Int)))), (6, .int (iz (fl + (Ga n)))), (0, .ref so), (1, .int (iz (fl))), (2, .int (iz (pr))), (3, .int (iz (min (Z 0) 30))), (4, .int (iz (mpF Id Ga fl pr (n + 1))))] := by rw [← (show (mpF Id Ga fl pr n : Int) = mpF Id Ga fl pr (n + 1) from (by simp only [mpF]; split <;> omega))]; exact hl
      exact ih21 (n + 1) _ ⟨(by omega), lv_sub hl [2, 3, 4, 5, 6, 0] rfl⟩ (by omega)
    · refine lv_iload hx hb dX5_mostByPumping_43 (lv_at hl 0 rfl) ?_
      refine lv_sipush (v := iz (329)) hx hb dX5_mostByPumping_45 (by decide) ?_
      refine kz_icmp_gt (tgt := 82) hx hb dX5_mostByPumping_48 (by decide) (by omega) (by omega) (fun c48 => ?_) (fun c48 => ?_)
      · refine kz_iinc (b := ((n + 1 : Nat) : Int)) (lv' := [(5, .int (iz (((n + 1 : Nat) : Int)))), (6, .int (iz (fl + (Ga n)))), (0, .ref so), (1, .int (iz (fl))), (2, .int (iz (pr))), (3, .int (iz (min (Z 0) 30))), (4, .int (iz (mpF Id Ga fl pr n)))]) hx hb dX5_mostByPumping_82 hl (k := 6) rfl (by omega) (by decide) rfl (fun ls hl => ?_)
        refine lv_goto (tgt := 21) hx hb dX5_mostByPumping_85 (by decide) ?_
        have hl : lv_has ls 7 [(5, .int (iz (((n + 1 : Nat) : Int)))), (6, .int (iz (fl + (Ga n)))), (0, .ref so), (1, .int (iz (fl))), (2, .int (iz (pr))), (3, .int (iz (min (Z 0) 30))), (4, .int (iz (mpF Id Ga fl pr (n + 1))))] := by rw [← (show (mpF Id Ga fl pr n : Int) = mpF Id Ga fl pr (n + 1) from (by simp only [mpF]; split <;> omega))]; exact hl
        exact ih21 (n + 1) _ ⟨(by omega), lv_sub hl [2, 3, 4, 5, 6, 0] rfl⟩ (by omega)
      · have hin := hia (fl + Ga n).toNat (by omega)
        refine lv_aload_n hx hb dX5_mostByPumping_51 rfl (lv_at hl 1 rfl) ?_
        refine va_get (D := D) (ci := 5) (C := RX5) (T := TX5) (N := 9) hx hb hts w1 hown hK.1 hP 0 rfl rfl 8 (by decide) w11 (fun _ h9 => h9) rfl dX5_mostByPumping_52 ?_
        refine lv_iload hx hb dX5_mostByPumping_55 (lv_at hl 0 rfl) ?_
        refine kz_iald hx hb hK hP (2) rfl ((fl + (Ga n)).toNat) (by omega) (by omega) (by omega) dX5_mostByPumping_57 ?_
        refine lv_ldc (v := (-1000000000 : Int32)) hx hb hown w9 dX5_mostByPumping_58 ?_
        refine W.eq (g2 := F0 m 60 ls (.int (iz (-1000000000)) :: [.int (iz (Id ((fl + (Ga n)).toNat)))])) (by rw [show iz (-1000000000) = (-1000000000 : Int32) from by decide]) ?_
        refine kz_icmp_eq (tgt := 82) hx hb dX5_mostByPumping_60 (by decide) (by omega) (by omega) (fun c60 => ?_) (fun c60 => ?_)
        · refine kz_iinc (b := ((n + 1 : Nat) : Int)) (lv' := [(5, .int (iz (((n + 1 : Nat) : Int)))), (6, .int (iz (fl + (Ga n)))), (0, .ref so), (1, .int (iz (fl))), (2, .int (iz (pr))), (3, .int (iz (min (Z 0) 30))), (4, .int (iz (mpF Id Ga fl pr n)))]) hx hb dX5_mostByPumping_82 hl (k := 6) rfl (by omega) (by decide) rfl (fun ls hl => ?_)
          refine lv_goto (tgt := 21) hx hb dX5_mostByPumping_85 (by decide) ?_
          have hl : lv_has ls 7 [(5, .int (iz (((n + 1 : Nat) : Int)))), (6, .int (iz (fl + (Ga n)))), (0, .ref so), (1, .int (iz (fl))), (2, .int (iz (pr))), (3, .int (iz (min (Z 0) 30))), (4, .int (iz (mpF Id Ga fl pr (n + 1))))] := by rw [← (show (mpF Id Ga fl pr n : Int) = mpF Id Ga fl pr (n + 1) from (by simp only [mpF]; split <;> omega))]; exact hl
          exact ih21 (n + 1) _ ⟨(by omega), lv_sub hl [2, 3, 4, 5, 6, 0] rfl⟩ (by omega)
        · refine lv_iload hx hb dX5_mostByPumping_63 (lv_at hl 5 rfl) ?_
          refine lv_aload_n hx hb dX5_mostByPumping_65 rfl (lv_at hl 1 rfl) ?_
          refine va_get (D := D) (ci := 5) (C := RX5) (T := TX5) (N := 9) hx hb hts w1 hown hK.1 hP 0 rfl rfl 8 (by decide) w11 (fun _ h9 => h9) rfl dX5_mostByPumping_66 ?_
          refine lv_iload hx hb dX5_mostByPumping_69 (lv_at hl 0 rfl) ?_
          refine kz_iald hx hb hK hP (2) rfl ((fl + (Ga n)).toNat) (by omega) (by omega) (by omega) dX5_mostByPumping_71 ?_
          refine lv_iload hx hb dX5_mostByPumping_72 (lv_at hl 6 rfl) ?_
          refine lv_iload_n hx hb dX5_mostByPumping_74 rfl (lv_at hl 3 rfl) ?_
          refine kz_mul hx hb dX5_mostByPumping_75 ?_
          refine kz_sub hx hb dX5_mostByPumping_76 ?_
          refine kz_mmax hx hb (by rw [hml]; exact hl.1.symm) hown w12 w13 w7 w14 (Nat.le_of_ble_eq_true rfl) (Nat.le_of_ble_eq_true rfl) (Nat.zero_le _) (Nat.zero_le _) (by omega) (by omega) dX5_mostByPumping_77 ?_
          refine lv_istore (lv' := [(4, .int (iz (max (mpF Id Ga fl pr n) ((Id ((fl + (Ga n)).toNat)) - (((n : Nat) : Int) * pr))))), (6, .int (iz (fl + (Ga n)))), (0, .ref so), (1, .int (iz (fl))), (2, .int (iz (pr))), (3, .int (iz (min (Z 0) 30))), (5, .int (iz (((n : Nat) : Int))))]) hx hb dX5_mostByPumping_80 hl (by decide) rfl (fun ls hl => ?_)
          refine kz_iinc (b := ((n + 1 : Nat) : Int)) (lv' := [(5, .int (iz (((n + 1 : Nat) : Int)))), (4, .int (iz (max (mpF Id Ga fl pr n) ((Id ((fl + (Ga n)).toNat)) - (((n : Nat) : Int) * pr))))), (6, .int (iz (fl + (Ga n)))), (0, .ref so), (1, .int (iz (fl))), (2, .int (iz (pr))), (3, .int (iz (min (Z 0) 30)))]) hx hb dX5_mostByPumping_82 hl (k := 6) rfl (by omega) (by decide) rfl (fun ls hl => ?_)
          refine lv_goto (tgt := 21) hx hb dX5_mostByPumping_85 (by decide) ?_
          have hl : lv_has ls 7 [(5, .int (iz (((n + 1 : Nat) : Int)))), (4, .int (iz (mpF Id Ga fl pr (n + 1)))), (6, .int (iz (fl + (Ga n)))), (0, .ref so), (1, .int (iz (fl))), (2, .int (iz (pr))), (3, .int (iz (min (Z 0) 30)))] := by rw [← (show (max (mpF Id Ga fl pr n) ((Id ((fl + (Ga n)).toNat)) - (((n : Nat) : Int) * pr)) : Int) = mpF Id Ga fl pr (n + 1) from (by simp only [mpF]; split <;> omega))]; exact hl
          exact ih21 (n + 1) _ ⟨(by omega), lv_sub hl [3, 4, 5, 6, 1, 0] rfl⟩ (by omega)
set_option maxHeartbeats 4000000 in
set_option maxRecDepth 100000 in
theorem c_X5_mostByLettingDown (l : Launch) (D : va_G) (T : Nat → ClassId) (so : Nat) (mo : Nat) (ga : Nat) (pla : Nat) (ea : Nat) (ah : Nat) (ia : Nat) (fo : Int) (sv : Int) (h0 : Nat) (h1 : Nat) (Z : Nat → Int) (ve : Int) (Ea : Nat → Int) (Ah : Nat → Int) (fl : Int) (hV : VL Z) (hf : 0 ≤ fl ∧ fl ≤ 1000) (hea : ∀ r : Nat, r < 31 → -200000 ≤ Ea r ∧ Ea r ≤ 200000) (hah : ∀ r : Nat, r < 330 → -1000000000 ≤ Ah r ∧ Ah r ≤ 1000000000) : Met l yX5_mostByLettingDown wsX5_mostByLettingDown ({ frames := 1, cells := 0, slots := 0, locals := 21 }) (kPc D T [.ref so, .int (iz (fl))] (va_P D vwCl [(so, .inr (5, [.ref h0, .ref mo, .ref ga, .ref pla, .int (iz (fo)), .int (iz (sv)), .ref ea, .ref ah, .ref ia])), (ea, .inl (T 0, 31, .inl (zA Ea))), (ah, .inl (T 0, 330, .inl (zA Ah))), (h0, .inr (2, [.ref h1, .int (iz (ve))])), (h1, .inl (T 0, 115, .inl (zA Z)))])) (vp_Si (fun r : Int32 => r = iz (mdF Z Ah Ea fl (min (Z 1) (fl - Z 5)).toNat))) 0 0 (fun _ => False) := by
  refine Met.ofW (cc := cX5_mostByLettingDown) (maxL := 7) (ret := (some .int)) (by decide) rfl ?_
  intro p e s m args below meth c s₁ B hml hv
  obtain ⟨rfl, hK, hP⟩ := hv
  have hx := B.exec
  have hb := B.bytes
  have hr := B.returns
  have hts := atoms_spec (ws := wsX5_mostByLettingDown) B.pre
  have hown : s.vm.findClass RX5 = some m.cls := findClass_of_methodNamed B.named
  have hlocks := B.notSynchronized
  have w0 := hts (.fieldLink RX5 40 "LakePlant$Search" "lake" "LLakePlant$Lake;") (List.mem_of_getElem? (i := 1) rfl)
  have w1 : ∀ w ∈ wsX50, w ∈ wsX5_mostByLettingDown := by decide +kernel
  have w2 := hts (.initialized RX2) (List.mem_of_getElem? (i := 13) rfl)
  have w3 := hts (.instanceMethod yX2_settingOf) (List.mem_of_getElem? (i := 12) rfl)
  have w4 := hts (.selects RX2 yX2_settingOf yX2_settingOf) (List.mem_of_getElem? (i := 14) rfl)
  have w5 := hts (.methodLink RX5 87 Lib.Math.min.name) (List.mem_of_getElem? (i := 2) rfl)
  have w6 := hts (.static Lib.Math.min.name) (List.mem_of_getElem? (i := 3) rfl)
  have w7 := hts (.initialized "java/lang/Math") (List.mem_of_getElem? (i := 4) rfl)
  have w8 := hts (.code Lib.Math.min.name Lib.Math.min.code 2 (some .int)) (List.mem_of_getElem? (i := 5) rfl)
  have w9 := hts (.constant RX5 53 (-1000000000)) (List.mem_of_getElem? (i := 6) rfl)
  have w10 := hts (.fieldLink RX5 34 "LakePlant$Search" "ahead" "[I") (List.mem_of_getElem? (i := 7) rfl)
  have w11 := hts (.fieldLink RX5 31 "LakePlant$Search" "earned" "[I") (List.mem_of_getElem? (i := 8) rfl)
  have w12 := hts (.methodLink RX5 104 Lib.Math.max.name) (List.mem_of_getElem? (i := 9) rfl)
  have w13 := hts (.static Lib.Math.max.name) (List.mem_of_getElem? (i := 10) rfl)
  have w14 := hts (.code Lib.Math.max.name Lib.Math.max.code 2 (some .int)) (List.mem_of_getElem? (i := 11) rfl)
  have hP : va_P D vwCl [(so, .inr (5, [.ref h0, .ref mo, .ref ga, .ref pla, .int (iz (fo)), .int (iz (sv)), .ref ea, .ref ah, .ref ia])), (ea, .inl (T 0, 31, .inl (zA Ea))), (ah, .inl (T 0, 330, .inl (zA Ah))), (h0, .inr (2, [.ref h1, .int (iz (ve))])), (h1, .inl (T 0, 115, .inl (zA Z)))] s.heap := hP
  have hl := lv_entry ([.ref so, .int (iz (fl))]) (n := 7) (Nat.le_of_ble_eq_true rfl)
  rw [lg_entry_eq]
  generalize (lg_sl ([.ref so, .int (iz (fl))]) ++ List.replicate (7 - (lg_sl ([.ref so, .int (iz (fl))])).length) Slot.unset).toArray = ls at hl ⊢
  have hl : lv_has ls 7 [(0, .ref so), (1, .int (iz (fl)))] := hl
  have hs := hV.1
  unfold VS at hs
  refine lv_aload_n hx hb dX5_mostByLettingDown_0 rfl (lv_at hl 0 rfl) ?_
  refine va_get (D := D) (ci := 5) (C := RX5) (T := TX5) (N := 9) hx hb hts w1 hown hK.1 hP 0 rfl rfl 0 (by decide) w0 (fun _ h9 => h9) rfl dX5_mostByLettingDown_1 ?_
  refine lv_iconst (v := iz (1)) hx hb dX5_mostByLettingDown_4 (by decide) ?_
  refine kz_top (y := ((1 : Nat) : Int)) rfl ?_
  refine kc_i (va_runVN (As := [.int (iz (((1 : Nat) : Int)))]) (rest := []) ⟨hx, hb, hml, hown, hts⟩ (c_X2_settingOf l D T h0 h1 Z ve 1 (by omega)) ⟨va_cnB 1 hts gX5_mostByLettingDown_X2_settingOf_n49 rfl rfl rfl (kn_RX5_49 hK) w2 (by decide +kernel) ⟨Nat.le_of_ble_eq_true rfl, Nat.le_of_ble_eq_true rfl⟩, w3, w4⟩ (kPc.v hK (va_recv hK.1 hP (ci := 2) (q0 := 3) rfl rfl) (kcut hP [3, 4] rfl)) rfl rfl hl.1 rfl (lv_room (Nat.le_of_ble_eq_true rfl)) dX5_mostByLettingDown_5 ⟨Nat.zero_le _, Nat.zero_le _⟩) (fun r1 hr1 => ?_)
  subst hr1
  refine lv_iload_n hx hb dX5_mostByLettingDown_8 rfl (lv_at hl 1 rfl) ?_
  refine lv_aload_n hx hb dX5_mostByLettingDown_9 rfl (lv_at hl 0 rfl) ?_
  refine va_get (D := D) (ci := 5) (C := RX5) (T := TX5) (N := 9) hx hb hts w1 hown hK.1 hP 0 rfl rfl 0 (by decide) w0 (fun _ h9 => h9) rfl dX5_mostByLettingDown_10 ?_
  refine lv_iconst (v := iz (5)) hx hb dX5_mostByLettingDown_13 (by decide) ?_
  refine kz_top (y := ((5 : Nat) : Int)) rfl ?_
  refine kc_i (va_runVN (As := [.int (iz (((5 : Nat) : Int)))]) (rest := [.int (iz (fl)), .int (iz (Z 1))]) ⟨hx, hb, hml, hown, hts⟩ (c_X2_settingOf l D T h0 h1 Z ve 5 (by omega)) ⟨va_cnB 1 hts gX5_mostByLettingDown_X2_settingOf_n49 rfl rfl rfl (kn_RX5_49 hK) w2 (by decide +kernel) ⟨Nat.le_of_ble_eq_true rfl, Nat.le_of_ble_eq_true rfl⟩, w3, w4⟩ (kPc.v hK (va_recv hK.1 hP (ci := 2) (q0 := 3) rfl rfl) (kcut hP [3, 4] rfl)) rfl rfl hl.1 rfl (lv_room (Nat.le_of_ble_eq_true rfl)) dX5_mostByLettingDown_14 ⟨Nat.zero_le _, Nat.zero_le _⟩) (fun r2 hr2 => ?_)
  subst hr2
  refine kz_sub hx hb dX5_mostByLettingDown_17 ?_
  refine kz_mmin hx hb (by rw [hml]; exact hl.1.symm) hown w5 w6 w7 w8 (Nat.le_of_ble_eq_true rfl) (Nat.le_of_ble_eq_true rfl) (Nat.zero_le _) (Nat.zero_le _) (by omega) (by omega) dX5_mostByLettingDown_18 ?_
  refine lv_istore_n (lv' := [(2, .int (iz (min (Z 1) (fl - (Z 5))))), (0, .ref so), (1, .int (iz (fl)))]) hx hb dX5_mostByLettingDown_21 rfl hl (by decide) rfl (fun ls hl => ?_)
  refine lv_aload_n hx hb dX5_mostByLettingDown_22 rfl (lv_at hl 1 rfl) ?_
  refine va_get (D := D) (ci := 5) (C := RX5) (T := TX5) (N := 9) hx hb hts w1 hown hK.1 hP 0 rfl rfl 0 (by decide) w0 (fun _ h9 => h9) rfl dX5_mostByLettingDown_23 ?_
  refine lv_iconst (v := iz (4)) hx hb dX5_mostByLettingDown_26 (by decide) ?_
  refine kz_top (y := ((4 : Nat) : Int)) rfl ?_
  refine kc_i (va_runVN (As := [.int (iz (((4 : Nat) : Int)))]) (rest := []) ⟨hx, hb, hml, hown, hts⟩ (c_X2_settingOf l D T h0 h1 Z ve 4 (by omega)) ⟨va_cnB 1 hts gX5_mostByLettingDown_X2_settingOf_n49 rfl rfl rfl (kn_RX5_49 hK) w2 (by decide +kernel) ⟨Nat.le_of_ble_eq_true rfl, Nat.le_of_ble_eq_true rfl⟩, w3, w4⟩ (kPc.v hK (va_recv hK.1 hP (ci := 2) (q0 := 3) rfl rfl) (kcut hP [3, 4] rfl)) rfl rfl hl.1 rfl (lv_room (Nat.le_of_ble_eq_true rfl)) dX5_mostByLettingDown_27 ⟨Nat.zero_le _, Nat.zero_le _⟩) (fun r3 hr3 => ?_)
  subst hr3
  refine lv_istore_n (lv' := [(3, .int (iz (Z 4))), (2, .int (iz (min (Z 1) (fl - (Z 5))))), (0, .ref so), (1, .int (iz (fl)))]) hx hb dX5_mostByLettingDown_30 rfl hl (by decide) rfl (fun ls hl => ?_)
  refine lv_ldc (v := (-1000000000 : Int32)) hx hb hown w9 dX5_mostByLettingDown_31 ?_
  refine W.eq (g2 := F0 m 33 ls (.int (iz (-1000000000)) :: [])) (by rw [show iz (-1000000000) = (-1000000000 : Int32) from by decide]) ?_
  refine lv_istore (lv' := [(4, .int (iz ((-1000000000)))), (3, .int (iz (Z 4))), (2, .int (iz (min (Z 1) (fl - (Z 5))))), (0, .ref so), (1, .int (iz (fl)))]) hx hb dX5_mostByLettingDown_33 hl (by decide) rfl (fun ls hl => ?_)
  refine lv_iconst (v := iz (1)) hx hb dX5_mostByLettingDown_35 (by decide) ?_
  refine lv_istore (lv' := [(5, .int (iz (1))), (4, .int (iz ((-1000000000)))), (3, .int (iz (Z 4))), (2, .int (iz (min (Z 1) (fl - (Z 5))))), (0, .ref so), (1, .int (iz (fl)))]) hx hb dX5_mostByLettingDown_36 hl (by decide) rfl (fun ls hl => ?_)
  have hl : lv_has ls 7 [(5, .int (iz (1))), (4, .int (iz ((-1000000000)))), (3, .int (iz (Z 4))), (2, .int (iz (min (Z 1) (fl - Z 5)))), (0, .ref so), (1, .int (iz (fl)))] := by rw [← (show (min (Z 1) (fl - (Z 5)) : Int) = min (Z 1) (fl - Z 5) from (by first | rfl | omega))]; exact hl
  have hl : lv_has ls 7 [(5, .int (iz (1))), (4, .int (iz (mdF Z Ah Ea fl 0))), (3, .int (iz (Z 4))), (2, .int (iz (min (Z 1) (fl - Z 5)))), (0, .ref so), (1, .int (iz (fl)))] := by rw [← (show ((-1000000000) : Int) = mdF Z Ah Ea fl 0 from rfl)]; exact hl
  have hl : lv_has ls 7 [(5, .int (iz (((0 + 1 : Nat) : Int)))), (4, .int (iz (mdF Z Ah Ea fl 0))), (3, .int (iz (Z 4))), (2, .int (iz (min (Z 1) (fl - Z 5)))), (0, .ref so), (1, .int (iz (fl)))] := by rw [← (show (1 : Int) = ((0 + 1 : Nat) : Int) from rfl)]; exact hl
  refine kz_loopR1 (pc := 38) (I := fun (n : Nat) (ls : Array Slot) => ((n : Int) ≤ max 0 (min (Z 1) (fl - Z 5))) ∧ lv_has ls 7 [(0, .ref so), (1, .int (iz (fl))), (2, .int (iz (min (Z 1) (fl - Z 5)))), (3, .int (iz (Z 4))), (4, .int (iz (mdF Z Ah Ea fl n))), (5, .int (iz (((n + 1 : Nat) : Int))))]) (μ := fun (n : Nat) => 31 - n) 0 ⟨(by omega), lv_sub hl [4, 5, 3, 2, 1, 0] rfl⟩ ?_
  rintro n ls ⟨hn, hl⟩ ih38
  have hmr := mdF_rng (Z := Z) (f := fl) hah hea n (by omega)
  refine lv_iload hx hb dX5_mostByLettingDown_38 (lv_at hl 5 rfl) ?_
  refine lv_iload_n hx hb dX5_mostByLettingDown_40 rfl (lv_at hl 2 rfl) ?_
  refine kz_icmp_gt (tgt := 116) hx hb dX5_mostByLettingDown_41 (by decide) (by omega) (by omega) (fun c41 => ?_) (fun c41 => ?_)
  · have hnn : (min (Z 1) (fl - Z 5)).toNat = n := by omega
    refine lv_iload hx hb dX5_mostByLettingDown_116 (lv_at hl 4 rfl) ?_
    exact W.iret hx hb hr (fun t ht _ => ⟨_, rfl, (congrArg iz (by rw [hnn])), ht⟩) (fun _ h => absurd h List.not_mem_nil) dX5_mostByLettingDown_118
  · refine lv_iload hx hb dX5_mostByLettingDown_44 (lv_at hl 5 rfl) ?_
    refine lv_bipush (v := iz (30)) hx hb dX5_mostByLettingDown_46 (by decide) ?_
    refine kz_icmp_gt (tgt := 116) hx hb dX5_mostByLettingDown_48 (by decide) (by omega) (by omega) (fun c48 => False.elim (by omega)) (fun c48 => ?_)
    refine lv_iload_n hx hb dX5_mostByLettingDown_51 rfl (lv_at hl 1 rfl) ?_
    refine lv_iload hx hb dX5_mostByLettingDown_52 (lv_at hl 5 rfl) ?_
    refine kz_sub hx hb dX5_mostByLettingDown_54 ?_
    refine lv_istore (lv' := [(6, .int (iz (fl - ((n + 1 : Nat) : Int)))), (0, .ref so), (1, .int (iz (fl))), (2, .int (iz (min (Z 1) (fl - Z 5)))), (3, .int (iz (Z 4))), (4, .int (iz (mdF Z Ah Ea fl n))), (5, .int (iz (((n + 1 : Nat) : Int))))]) hx hb dX5_mostByLettingDown_55 hl (by decide) rfl (fun ls hl => ?_)
    refine lv_iload hx hb dX5_mostByLettingDown_57 (lv_at hl 6 rfl) ?_
    refine lv_iload_n hx hb dX5_mostByLettingDown_59 rfl (lv_at hl 4 rfl) ?_
    refine kz_icmp_le (tgt := 110) hx hb dX5_mostByLettingDown_60 (by decide) (by omega) (by omega) (fun c60 => ?_) (fun c60 => ?_)
    · refine kz_iinc (b := ((n + 1 + 1 : Nat) : Int)) (lv' := [(5, .int (iz (((n + 1 + 1 : Nat) : Int)))), (6, .int (iz (fl - ((n + 1 : Nat) : Int)))), (0, .ref so), (1, .int (iz (fl))), (2, .int (iz (min (Z 1) (fl - Z 5)))), (3, .int (iz (Z 4))), (4, .int (iz (mdF Z Ah Ea fl n)))]) hx hb dX5_mostByLettingDown_110 hl (k := 6) rfl (by omega) (by decide) rfl (fun ls hl => ?_)
      refine lv_goto (tgt := 38) hx hb dX5_mostByLettingDown_113 (by decide) ?_
      have hl : lv_has ls 7 [(5, .int (iz (((n + 1 + 1 : Nat) : Int)))), (6, .int (iz (fl - ((n + 1 : Nat) : Int)))), (0, .ref so), (1, .int (iz (fl))), (2, .int (iz (min (Z 1) (fl - Z 5)))), (3, .int (iz (Z 4))), (4, .int (iz (mdF Z Ah Ea fl (n + 1))))] := by rw [← (show (mdF Z Ah Ea fl n : Int) = mdF Z Ah Ea fl (n + 1) from (by simp only [mdF]; split <;> omega))]; exact hl
      have hl : lv_has ls 7 [(5, .int (iz ((((n + 1) + 1 : Nat) : Int)))), (6, .int (iz (fl - ((n + 1 : Nat) : Int)))), (0, .ref so), (1, .int (iz (fl))), (2, .int (iz (min (Z 1) (fl - Z 5)))), (3, .int (iz (Z 4))), (4, .int (iz (mdF Z Ah Ea fl (n + 1))))] := by rw [← (show (((n + 1 + 1 : Nat) : Int) : Int) = (((n + 1) + 1 : Nat) : Int) from (by first | rfl | omega))]; exact hl
      exact ih38 (n + 1) _ ⟨(by omega), lv_sub hl [2, 3, 4, 5, 6, 0] rfl⟩ (by omega)
    · refine lv_iload hx hb dX5_mostByLettingDown_63 (lv_at hl 0 rfl) ?_
      refine kz_if_lt (tgt := 110) hx hb dX5_mostByLettingDown_65 (by decide) (by omega) (fun c65 => ?_) (fun c65 => ?_)
      · refine kz_iinc (b := ((n + 1 + 1 : Nat) : Int)) (lv' := [(5, .int (iz (((n + 1 + 1 : Nat) : Int)))), (6, .int (iz (fl - ((n + 1 : Nat) : Int)))), (0, .ref so), (1, .int (iz (fl))), (2, .int (iz (min (Z 1) (fl - Z 5)))), (3, .int (iz (Z 4))), (4, .int (iz (mdF Z Ah Ea fl n)))]) hx hb dX5_mostByLettingDown_110 hl (k := 6) rfl (by omega) (by decide) rfl (fun ls hl => ?_)
        refine lv_goto (tgt := 38) hx hb dX5_mostByLettingDown_113 (by decide) ?_
        have hl : lv_has ls 7 [(5, .int (iz (((n + 1 + 1 : Nat) : Int)))), (6, .int (iz (fl - ((n + 1 : Nat) : Int)))), (0, .ref so), (1, .int (iz (fl))), (2, .int (iz (min (Z 1) (fl - Z 5)))), (3, .int (iz (Z 4))), (4, .int (iz (mdF Z Ah Ea fl (n + 1))))] := by rw [← (show (mdF Z Ah Ea fl n : Int) = mdF Z Ah Ea fl (n + 1) from (by simp only [mdF]; split <;> omega))]; exact hl
        have hl : lv_has ls 7 [(5, .int (iz ((((n + 1) + 1 : Nat) : Int)))), (6, .int (iz (fl - ((n + 1 : Nat) : Int)))), (0, .ref so), (1, .int (iz (fl))), (2, .int (iz (min (Z 1) (fl - Z 5)))), (3, .int (iz (Z 4))), (4, .int (iz (mdF Z Ah Ea fl (n + 1))))] := by rw [← (show (((n + 1 + 1 : Nat) : Int) : Int) = (((n + 1) + 1 : Nat) : Int) from (by first | rfl | omega))]; exact hl
        exact ih38 (n + 1) _ ⟨(by omega), lv_sub hl [2, 3, 4, 5, 6, 0] rfl⟩ (by omega)
      · refine lv_iload hx hb dX5_mostByLettingDown_68 (lv_at hl 0 rfl) ?_
        refine lv_sipush (v := iz (329)) hx hb dX5_mostByLettingDown_70 (by decide) ?_
        refine kz_icmp_gt (tgt := 110) hx hb dX5_mostByLettingDown_73 (by decide) (by omega) (by omega) (fun c73 => ?_) (fun c73 => ?_)
        · refine kz_iinc (b := ((n + 1 + 1 : Nat) : Int)) (lv' := [(5, .int (iz (((n + 1 + 1 : Nat) : Int)))), (6, .int (iz (fl - ((n + 1 : Nat) : Int)))), (0, .ref so), (1, .int (iz (fl))), (2, .int (iz (min (Z 1) (fl - Z 5)))), (3, .int (iz (Z 4))), (4, .int (iz (mdF Z Ah Ea fl n)))]) hx hb dX5_mostByLettingDown_110 hl (k := 6) rfl (by omega) (by decide) rfl (fun ls hl => ?_)
          refine lv_goto (tgt := 38) hx hb dX5_mostByLettingDown_113 (by decide) ?_
          have hl : lv_has ls 7 [(5, .int (iz (((n + 1 + 1 : Nat) : Int)))), (6, .int (iz (fl - ((n + 1 : Nat) : Int)))), (0, .ref so), (1, .int (iz (fl))), (2, .int (iz (min (Z 1) (fl - Z 5)))), (3, .int (iz (Z 4))), (4, .int (iz (mdF Z Ah Ea fl (n + 1))))] := by rw [← (show (mdF Z Ah Ea fl n : Int) = mdF Z Ah Ea fl (n + 1) from (by simp only [mdF]; split <;> omega))]; exact hl
          have hl : lv_has ls 7 [(5, .int (iz ((((n + 1) + 1 : Nat) : Int)))), (6, .int (iz (fl - ((n + 1 : Nat) : Int)))), (0, .ref so), (1, .int (iz (fl))), (2, .int (iz (min (Z 1) (fl - Z 5)))), (3, .int (iz (Z 4))), (4, .int (iz (mdF Z Ah Ea fl (n + 1))))] := by rw [← (show (((n + 1 + 1 : Nat) : Int) : Int) = (((n + 1) + 1 : Nat) : Int) from (by first | rfl | omega))]; exact hl
          exact ih38 (n + 1) _ ⟨(by omega), lv_sub hl [2, 3, 4, 5, 6, 0] rfl⟩ (by omega)
        · have hin := hah (fl - ((n + 1 : Nat) : Int)).toNat (by omega)
          have hin2 := hea (n + 1) (by omega)
          refine lv_aload_n hx hb dX5_mostByLettingDown_76 rfl (lv_at hl 1 rfl) ?_
          refine va_get (D := D) (ci := 5) (C := RX5) (T := TX5) (N := 9) hx hb hts w1 hown hK.1 hP 0 rfl rfl 7 (by decide) w10 (fun _ h9 => h9) rfl dX5_mostByLettingDown_77 ?_
          refine lv_iload hx hb dX5_mostByLettingDown_80 (lv_at hl 0 rfl) ?_
          refine kz_iald hx hb hK hP (2) rfl ((fl - ((n + 1 : Nat) : Int)).toNat) (by omega) (by omega) (by omega) dX5_mostByLettingDown_82 ?_
          refine lv_ldc (v := (-1000000000 : Int32)) hx hb hown w9 dX5_mostByLettingDown_83 ?_
          refine W.eq (g2 := F0 m 85 ls (.int (iz (-1000000000)) :: [.int (iz (Ah ((fl - ((n + 1 : Nat) : Int)).toNat)))])) (by rw [show iz (-1000000000) = (-1000000000 : Int32) from by decide]) ?_
          refine kz_icmp_eq (tgt := 110) hx hb dX5_mostByLettingDown_85 (by decide) (by omega) (by omega) (fun c85 => ?_) (fun c85 => ?_)
          · refine kz_iinc (b := ((n + 1 + 1 : Nat) : Int)) (lv' := [(5, .int (iz (((n + 1 + 1 : Nat) : Int)))), (6, .int (iz (fl - ((n + 1 : Nat) : Int)))), (0, .ref so), (1, .int (iz (fl))), (2, .int (iz (min (Z 1) (fl - Z 5)))), (3, .int (iz (Z 4))), (4, .int (iz (mdF Z Ah Ea fl n)))]) hx hb dX5_mostByLettingDown_110 hl (k := 6) rfl (by omega) (by decide) rfl (fun ls hl => ?_)
            refine lv_goto (tgt := 38) hx hb dX5_mostByLettingDown_113 (by decide) ?_
            have hl : lv_has ls 7 [(5, .int (iz (((n + 1 + 1 : Nat) : Int)))), (6, .int (iz (fl - ((n + 1 : Nat) : Int)))), (0, .ref so), (1, .int (iz (fl))), (2, .int (iz (min (Z 1) (fl - Z 5)))), (3, .int (iz (Z 4))), (4, .int (iz (mdF Z Ah Ea fl (n + 1))))] := by rw [← (show (mdF Z Ah Ea fl n : Int) = mdF Z Ah Ea fl (n + 1) from (by simp only [mdF]; split <;> omega))]; exact hl
            have hl : lv_has ls 7 [(5, .int (iz ((((n + 1) + 1 : Nat) : Int)))), (6, .int (iz (fl - ((n + 1 : Nat) : Int)))), (0, .ref so), (1, .int (iz (fl))), (2, .int (iz (min (Z 1) (fl - Z 5)))), (3, .int (iz (Z 4))), (4, .int (iz (mdF Z Ah Ea fl (n + 1))))] := by rw [← (show (((n + 1 + 1 : Nat) : Int) : Int) = (((n + 1) + 1 : Nat) : Int) from (by first | rfl | omega))]; exact hl
            exact ih38 (n + 1) _ ⟨(by omega), lv_sub hl [2, 3, 4, 5, 6, 0] rfl⟩ (by omega)
          · refine lv_iload hx hb dX5_mostByLettingDown_88 (lv_at hl 5 rfl) ?_
            refine lv_aload_n hx hb dX5_mostByLettingDown_90 rfl (lv_at hl 1 rfl) ?_
            refine va_get (D := D) (ci := 5) (C := RX5) (T := TX5) (N := 9) hx hb hts w1 hown hK.1 hP 0 rfl rfl 7 (by decide) w10 (fun _ h9 => h9) rfl dX5_mostByLettingDown_91 ?_
            refine lv_iload hx hb dX5_mostByLettingDown_94 (lv_at hl 0 rfl) ?_
            refine kz_iald hx hb hK hP (2) rfl ((fl - ((n + 1 : Nat) : Int)).toNat) (by omega) (by omega) (by omega) dX5_mostByLettingDown_96 ?_
            refine lv_aload_n hx hb dX5_mostByLettingDown_97 rfl (lv_at hl 1 rfl) ?_
            refine va_get (D := D) (ci := 5) (C := RX5) (T := TX5) (N := 9) hx hb hts w1 hown hK.1 hP 0 rfl rfl 6 (by decide) w11 (fun _ h9 => h9) rfl dX5_mostByLettingDown_98 ?_
            refine lv_iload hx hb dX5_mostByLettingDown_101 (lv_at hl 6 rfl) ?_
            refine kz_iald hx hb hK hP (1) rfl (n + 1) (by omega) (by omega) (by omega) dX5_mostByLettingDown_103 ?_
            refine kz_add hx hb dX5_mostByLettingDown_104 ?_
            refine kz_mmax hx hb (by rw [hml]; exact hl.1.symm) hown w12 w13 w7 w14 (Nat.le_of_ble_eq_true rfl) (Nat.le_of_ble_eq_true rfl) (Nat.zero_le _) (Nat.zero_le _) (by omega) (by omega) dX5_mostByLettingDown_105 ?_
            refine lv_istore (lv' := [(4, .int (iz (max (mdF Z Ah Ea fl n) ((Ah ((fl - ((n + 1 : Nat) : Int)).toNat)) + (Ea (n + 1)))))), (6, .int (iz (fl - ((n + 1 : Nat) : Int)))), (0, .ref so), (1, .int (iz (fl))), (2, .int (iz (min (Z 1) (fl - Z 5)))), (3, .int (iz (Z 4))), (5, .int (iz (((n + 1 : Nat) : Int))))]) hx hb dX5_mostByLettingDown_108 hl (by decide) rfl (fun ls hl => ?_)
            refine kz_iinc (b := ((n + 1 + 1 : Nat) : Int)) (lv' := [(5, .int (iz (((n + 1 + 1 : Nat) : Int)))), (4, .int (iz (max (mdF Z Ah Ea fl n) ((Ah ((fl - ((n + 1 : Nat) : Int)).toNat)) + (Ea (n + 1)))))), (6, .int (iz (fl - ((n + 1 : Nat) : Int)))), (0, .ref so), (1, .int (iz (fl))), (2, .int (iz (min (Z 1) (fl - Z 5)))), (3, .int (iz (Z 4)))]) hx hb dX5_mostByLettingDown_110 hl (k := 6) rfl (by omega) (by decide) rfl (fun ls hl => ?_)
            refine lv_goto (tgt := 38) hx hb dX5_mostByLettingDown_113 (by decide) ?_
            have hl : lv_has ls 7 [(5, .int (iz (((n + 1 + 1 : Nat) : Int)))), (4, .int (iz (mdF Z Ah Ea fl (n + 1)))), (6, .int (iz (fl - ((n + 1 : Nat) : Int)))), (0, .ref so), (1, .int (iz (fl))), (2, .int (iz (min (Z 1) (fl - Z 5)))), (3, .int (iz (Z 4)))] := by rw [← (show (max (mdF Z Ah Ea fl n) ((Ah ((fl - ((n + 1 : Nat) : Int)).toNat)) + (Ea (n + 1))) : Int) = mdF Z Ah Ea fl (n + 1) from (by simp only [mdF]; split <;> omega))]; exact hl
            have hl : lv_has ls 7 [(5, .int (iz ((((n + 1) + 1 : Nat) : Int)))), (4, .int (iz (mdF Z Ah Ea fl (n + 1)))), (6, .int (iz (fl - ((n + 1 : Nat) : Int)))), (0, .ref so), (1, .int (iz (fl))), (2, .int (iz (min (Z 1) (fl - Z 5)))), (3, .int (iz (Z 4)))] := by rw [← (show (((n + 1 + 1 : Nat) : Int) : Int) = (((n + 1) + 1 : Nat) : Int) from (by first | rfl | omega))]; exact hl
            exact ih38 (n + 1) _ ⟨(by omega), lv_sub hl [3, 4, 5, 6, 1, 0] rfl⟩ (by omega)
