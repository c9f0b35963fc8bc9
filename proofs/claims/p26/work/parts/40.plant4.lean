set_option maxHeartbeats 4000000 in
set_option maxRecDepth 100000 in
theorem c_X6_count (l : Launch) (D : va_G) (T : Nat → ClassId) (px : Nat) (hc : Nat) (so : Nat) (hp : Nat) (ho : Nat) (sl : Nat) (fl : Nat) (hh : Nat) (st : Nat) (asd : Int) (len : Int) (sg : Nat) (np : Int) (h0 : Nat) (h1 : Nat) (Z : Nat → Int) (ve : Int) (a : Int) (hia : -2147483648 ≤ a ∧ a < 2147483648) : Met l yX6_count wsX6_count ({ frames := 1, cells := 0, slots := 0, locals := 21 }) (kPc D T [.ref px, .int (iz (a))] (va_P D vwCl [(px, .inr (6, [.ref h0, .ref hc, .ref so, .ref hp, .ref ho, .ref hh, .ref sl, .ref fl])), (hh, .inr (1, [.ref st, .int (iz (asd)), .int (iz (len))])), (hp, .inr (3, [.ref sg, .int (iz (np))])), (h0, .inr (2, [.ref h1, .int (iz (ve))])), (h1, .inl (T 0, 115, .inl (zA Z)))])) (vp_Si (fun r : Int32 => r = iz (pl_cnt Z np len a))) 0 0 (fun _ => False) := by
  refine Met.ofW (cc := cX6_count) (maxL := 2) (ret := (some .int)) (by decide) rfl ?_
  intro p e s m args below meth c s₁ B hml hv
  obtain ⟨rfl, hK, hP⟩ := hv
  have hx := B.exec
  have hb := B.bytes
  have hr := B.returns
  have hts := atoms_spec (ws := wsX6_count) B.pre
  have hown : s.vm.findClass RX6 = some m.cls := findClass_of_methodNamed B.named
  have hlocks := B.notSynchronized
  have w0 := hts (.fieldLink RX6 10 "LakePlant" "lake" "LLakePlant$Lake;") (List.mem_of_getElem? (i := 1) rfl)
  have w1 : ∀ w ∈ wsX60, w ∈ wsX6_count := by decide +kernel
  have w2 := hts (.initialized RX2) (List.mem_of_getElem? (i := 5) rfl)
  have w3 := hts (.instanceMethod yX2_contracts) (List.mem_of_getElem? (i := 9) rfl)
  have w4 := hts (.selects RX2 yX2_contracts yX2_contracts) (List.mem_of_getElem? (i := 10) rfl)
  have w5 := hts (.fieldLink RX6 35 "LakePlant" "pad" "LLakePlant$Pad;") (List.mem_of_getElem? (i := 2) rfl)
  have w6 : ∀ w ∈ wsX30, w ∈ wsX6_count := by decide +kernel
  have w7 := hts (.fieldLink RX6 51 "LakePlant" "history" "LLakePlant$History;") (List.mem_of_getElem? (i := 3) rfl)
  have w8 : ∀ w ∈ wsX10, w ∈ wsX6_count := by decide +kernel
  have w9 := hts (.instanceMethod yX2_settingOf) (List.mem_of_getElem? (i := 4) rfl)
  have w10 := hts (.selects RX2 yX2_settingOf yX2_settingOf) (List.mem_of_getElem? (i := 6) rfl)
  have hP : va_P D vwCl [(px, .inr (6, [.ref h0, .ref hc, .ref so, .ref hp, .ref ho, .ref hh, .ref sl, .ref fl])), (hh, .inr (1, [.ref st, .int (iz (asd)), .int (iz (len))])), (hp, .inr (3, [.ref sg, .int (iz (np))])), (h0, .inr (2, [.ref h1, .int (iz (ve))])), (h1, .inl (T 0, 115, .inl (zA Z)))] s.heap := hP
  have hl := lv_entry ([.ref px, .int (iz (a))]) (n := 2) (Nat.le_of_ble_eq_true rfl)
  rw [lg_entry_eq]
  generalize (lg_sl ([.ref px, .int (iz (a))]) ++ List.replicate (2 - (lg_sl ([.ref px, .int (iz (a))])).length) Slot.unset).toArray = ls at hl ⊢
  have hl : lv_has ls 2 [(0, .ref px), (1, .int (iz (a)))] := hl
  refine lv_iload_n hx hb dX6_count_0 rfl (lv_at hl 1 rfl) ?_
  refine kz_if_lt (tgt := 19) hx hb dX6_count_1 (by decide) (by omega) (fun c1 => ?_) (fun c1 => ?_)
  · refine lv_iload_n hx hb dX6_count_19 rfl (lv_at hl 1 rfl) ?_
    rcases (show a = 10 ∨ a = 11 ∨ a = 12 ∨ (a < 10 ∨ 12 < a) from (by omega)) with hs20 | hs20 | hs20 | hs20
    · refine kz_tableIn (v := 10) (tgt := 48) (off := 28) hx hb dX6_count_20 hs20 (by decide) rfl (by decide) ?_
      refine lv_aload_n hx hb dX6_count_48 rfl (lv_at hl 0 rfl) ?_
      refine va_get (D := D) (ci := 6) (C := RX6) (T := TX6) (N := 8) hx hb hts w1 hown hK.1 hP 0 rfl rfl 0 (by decide) w0 (fun _ h9 => h9) rfl dX6_count_49 ?_
      refine kc_i (va_runVN (As := []) (rest := []) ⟨hx, hb, hml, hown, hts⟩ (c_X2_contracts l D T h0 h1 Z ve) ⟨va_cnB 0 hts gX6_count_X2_contracts_n171 rfl rfl rfl (kn_RX6_171 hK) w2 (by decide +kernel) ⟨Nat.le_of_ble_eq_true rfl, Nat.le_of_ble_eq_true rfl⟩, w3, w4⟩ (kPc.v hK (va_recv hK.1 hP (ci := 2) (q0 := 3) rfl rfl) (kcut hP [3, 4] rfl)) rfl rfl hl.1 rfl (lv_room (Nat.le_of_ble_eq_true rfl)) dX6_count_52 ⟨Nat.zero_le _, Nat.zero_le _⟩) (fun r1 hr1 => ?_)
      subst hr1
      exact W.iret hx hb hr (fun t ht _ => ⟨_, rfl, (congrArg iz (by rw [hs20]; rfl)), ht⟩) (fun _ h => absurd h List.not_mem_nil) dX6_count_55
    · refine kz_tableIn (v := 11) (tgt := 56) (off := 36) hx hb dX6_count_20 hs20 (by decide) rfl (by decide) ?_
      refine lv_aload_n hx hb dX6_count_56 rfl (lv_at hl 0 rfl) ?_
      refine va_get (D := D) (ci := 6) (C := RX6) (T := TX6) (N := 8) hx hb hts w1 hown hK.1 hP 0 rfl rfl 3 (by decide) w5 (fun _ h9 => h9) rfl dX6_count_57 ?_
      refine va_getN (D := D) (ci := 3) (C := RX3) (T := TX3) (N := 2) hx hb hts w6 hown hK.1 hP 2 rfl rfl 1 (by decide) (kb_RX6_174 hK) (fun _ h9 => h9) rfl dX6_count_60 ?_
      exact W.iret hx hb hr (fun t ht _ => ⟨_, rfl, (congrArg iz (by rw [hs20]; rfl)), ht⟩) (fun _ h => absurd h List.not_mem_nil) dX6_count_63
    · refine kz_tableIn (v := 12) (tgt := 64) (off := 44) hx hb dX6_count_20 hs20 (by decide) rfl (by decide) ?_
      refine lv_aload_n hx hb dX6_count_64 rfl (lv_at hl 0 rfl) ?_
      refine va_get (D := D) (ci := 6) (C := RX6) (T := TX6) (N := 8) hx hb hts w1 hown hK.1 hP 0 rfl rfl 5 (by decide) w7 (fun _ h9 => h9) rfl dX6_count_65 ?_
      refine va_getN (D := D) (ci := 1) (C := RX1) (T := TX1) (N := 3) hx hb hts w8 hown hK.1 hP 1 rfl rfl 2 (by decide) (kb_RX6_178 hK) (fun _ h9 => h9) rfl dX6_count_68 ?_
      exact W.iret hx hb hr (fun t ht _ => ⟨_, rfl, (congrArg iz (by rw [hs20]; rfl)), ht⟩) (fun _ h => absurd h List.not_mem_nil) dX6_count_71
    · refine kz_tableOut (tgt := 72) hx hb dX6_count_20 (by omega) hs20 (by decide) ?_
      refine lv_bipush (v := iz (-2)) hx hb dX6_count_72 (by decide) ?_
      exact W.iret hx hb hr (fun t ht _ => ⟨_, rfl, (congrArg iz (by unfold pl_cnt; rw [if_neg (by omega), if_neg (by omega), if_neg (by omega), if_neg (by omega)])), ht⟩) (fun _ h => absurd h List.not_mem_nil) dX6_count_74
  · refine lv_iload_n hx hb dX6_count_4 rfl (lv_at hl 1 rfl) ?_
    refine lv_bipush (v := iz (10)) hx hb dX6_count_5 (by decide) ?_
    refine kz_icmp_ge (tgt := 19) hx hb dX6_count_7 (by decide) (by omega) (by omega) (fun c7 => ?_) (fun c7 => ?_)
    · refine lv_iload_n hx hb dX6_count_19 rfl (lv_at hl 1 rfl) ?_
      rcases (show a = 10 ∨ a = 11 ∨ a = 12 ∨ (a < 10 ∨ 12 < a) from (by omega)) with hs20 | hs20 | hs20 | hs20
      · refine kz_tableIn (v := 10) (tgt := 48) (off := 28) hx hb dX6_count_20 hs20 (by decide) rfl (by decide) ?_
        refine lv_aload_n hx hb dX6_count_48 rfl (lv_at hl 0 rfl) ?_
        refine va_get (D := D) (ci := 6) (C := RX6) (T := TX6) (N := 8) hx hb hts w1 hown hK.1 hP 0 rfl rfl 0 (by decide) w0 (fun _ h9 => h9) rfl dX6_count_49 ?_
        refine kc_i (va_runVN (As := []) (rest := []) ⟨hx, hb, hml, hown, hts⟩ (c_X2_contracts l D T h0 h1 Z ve) ⟨va_cnB 0 hts gX6_count_X2_contracts_n171 rfl rfl rfl (kn_RX6_171 hK) w2 (by decide +kernel) ⟨Nat.le_of_ble_eq_true rfl, Nat.le_of_ble_eq_true rfl⟩, w3, w4⟩ (kPc.v hK (va_recv hK.1 hP (ci := 2) (q0 := 3) rfl rfl) (kcut hP [3, 4] rfl)) rfl rfl hl.1 rfl (lv_room (Nat.le_of_ble_eq_true rfl)) dX6_count_52 ⟨Nat.zero_le _, Nat.zero_le _⟩) (fun r2 hr2 => ?_)
        subst hr2
        exact W.iret hx hb hr (fun t ht _ => ⟨_, rfl, (congrArg iz (by rw [hs20]; rfl)), ht⟩) (fun _ h => absurd h List.not_mem_nil) dX6_count_55
      · refine kz_tableIn (v := 11) (tgt := 56) (off := 36) hx hb dX6_count_20 hs20 (by decide) rfl (by decide) ?_
        refine lv_aload_n hx hb dX6_count_56 rfl (lv_at hl 0 rfl) ?_
        refine va_get (D := D) (ci := 6) (C := RX6) (T := TX6) (N := 8) hx hb hts w1 hown hK.1 hP 0 rfl rfl 3 (by decide) w5 (fun _ h9 => h9) rfl dX6_count_57 ?_
        refine va_getN (D := D) (ci := 3) (C := RX3) (T := TX3) (N := 2) hx hb hts w6 hown hK.1 hP 2 rfl rfl 1 (by decide) (kb_RX6_174 hK) (fun _ h9 => h9) rfl dX6_count_60 ?_
        exact W.iret hx hb hr (fun t ht _ => ⟨_, rfl, (congrArg iz (by rw [hs20]; rfl)), ht⟩) (fun _ h => absurd h List.not_mem_nil) dX6_count_63
      · refine kz_tableIn (v := 12) (tgt := 64) (off := 44) hx hb dX6_count_20 hs20 (by decide) rfl (by decide) ?_
        refine lv_aload_n hx hb dX6_count_64 rfl (lv_at hl 0 rfl) ?_
        refine va_get (D := D) (ci := 6) (C := RX6) (T := TX6) (N := 8) hx hb hts w1 hown hK.1 hP 0 rfl rfl 5 (by decide) w7 (fun _ h9 => h9) rfl dX6_count_65 ?_
        refine va_getN (D := D) (ci := 1) (C := RX1) (T := TX1) (N := 3) hx hb hts w8 hown hK.1 hP 1 rfl rfl 2 (by decide) (kb_RX6_178 hK) (fun _ h9 => h9) rfl dX6_count_68 ?_
        exact W.iret hx hb hr (fun t ht _ => ⟨_, rfl, (congrArg iz (by rw [hs20]; rfl)), ht⟩) (fun _ h => absurd h List.not_mem_nil) dX6_count_71
      · refine kz_tableOut (tgt := 72) hx hb dX6_count_20 (by omega) hs20 (by decide) ?_
        refine lv_bipush (v := iz (-2)) hx hb dX6_count_72 (by decide) ?_
        exact W.iret hx hb hr (fun t ht _ => ⟨_, rfl, (congrArg iz (by unfold pl_cnt; rw [if_neg (by omega), if_neg (by omega), if_neg (by omega), if_neg (by omega)])), ht⟩) (fun _ h => absurd h List.not_mem_nil) dX6_count_74
    · refine lv_aload_n hx hb dX6_count_10 rfl (lv_at hl 0 rfl) ?_
      refine va_get (D := D) (ci := 6) (C := RX6) (T := TX6) (N := 8) hx hb hts w1 hown hK.1 hP 0 rfl rfl 0 (by decide) w0 (fun _ h9 => h9) rfl dX6_count_11 ?_
      refine lv_iload_n hx hb dX6_count_14 rfl (lv_at hl 1 rfl) ?_
      refine kz_top (y := ((a.toNat : Nat) : Int)) (by omega) ?_
      refine kc_i (va_runVN (As := [.int (iz (((a.toNat : Nat) : Int)))]) (rest := []) ⟨hx, hb, hml, hown, hts⟩ (c_X2_settingOf l D T h0 h1 Z ve a.toNat (by omega)) ⟨va_cnB 1 hts gX6_count_X2_settingOf_n162 rfl rfl rfl (kn_RX6_162 hK) w2 (by decide +kernel) ⟨Nat.le_of_ble_eq_true rfl, Nat.le_of_ble_eq_true rfl⟩, w9, w10⟩ (kPc.v hK (va_recv hK.1 hP (ci := 2) (q0 := 3) rfl rfl) (kcut hP [3, 4] rfl)) rfl rfl hl.1 rfl (lv_room (Nat.le_of_ble_eq_true rfl)) dX6_count_15 ⟨Nat.zero_le _, Nat.zero_le _⟩) (fun r3 hr3 => ?_)
      subst hr3
      exact W.iret hx hb hr (fun t ht _ => ⟨_, rfl, (congrArg iz (by unfold pl_cnt; rw [if_pos (by omega)])), ht⟩) (fun _ h => absurd h List.not_mem_nil) dX6_count_18
