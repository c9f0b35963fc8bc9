set_option maxHeartbeats 4000000 in
set_option maxRecDepth 100000 in
theorem c_X3_signAt (l : Launch) (D : va_G) (T : Nat → ClassId) (hp : Nat) (sg : Nat) (P : Nat → Int) (n : Nat) (hVP : VP P n) (i : Nat) (hi : i ≤ 1000) : Met l yX3_signAt wsX3_signAt ({ frames := 0, cells := 0, slots := 0, locals := 0 }) (kPc D T [.ref hp, .int (iz (((i : Nat) : Int)))] (va_P D vwCl [(hp, .inr (3, [.ref sg, .int (iz (((n : Nat) : Int)))])), (sg, .inl (T 3, 80, .inl (zA P)))])) (vp_Si (fun r : Int32 => r = iz (pd_s P n i))) 0 0 (fun _ => False) := by
  refine Met.ofW (cc := cX3_signAt) (maxL := 2) (ret := (some .char)) (by decide) rfl ?_
  intro p e s m args below meth c s₁ B hml hv
  obtain ⟨rfl, hK, hP⟩ := hv
  have hx := B.exec
  have hb := B.bytes
  have hr := B.returns
  have hts := atoms_spec (ws := wsX3_signAt) B.pre
  have hown : s.vm.findClass RX3 = some m.cls := findClass_of_methodNamed B.named
  have hlocks := B.notSynchronized
  have w0 := hts (.fieldLink RX3 15 "LakePlant$Pad" "length" "I") (List.mem_of_getElem? (i := 1) rfl)
  have w1 : ∀ w ∈ wsX30, w ∈ wsX3_signAt := by decide +kernel
  have w2 := hts (.fieldLink RX3 9 "LakePlant$Pad" "signs" "[C") (List.mem_of_getElem? (i := 2) rfl)
  have hP : va_P D vwCl [(hp, .inr (3, [.ref sg, .int (iz (((n : Nat) : Int)))])), (sg, .inl (T 3, 80, .inl (zA P)))] s.heap := hP
  have hl := lv_entry ([.ref hp, .int (iz (((i : Nat) : Int)))]) (n := 2) (Nat.le_of_ble_eq_true rfl)
  rw [lg_entry_eq]
  generalize (lg_sl ([.ref hp, .int (iz (((i : Nat) : Int)))]) ++ List.replicate (2 - (lg_sl ([.ref hp, .int (iz (((i : Nat) : Int)))])).length) Slot.unset).toArray = ls at hl ⊢
  have hl : lv_has ls 2 [(0, .ref hp), (1, .int (iz (((i : Nat) : Int))))] := hl
  have hs := pd_s_rng hVP i
  have hn80 := hVP.1
  refine lv_iload_n hx hb dX3_signAt_0 rfl (lv_at hl 1 rfl) ?_
  refine kz_if_lt (tgt := 27) hx hb dX3_signAt_1 (by decide) (by omega) (fun c1 => False.elim (by omega)) (fun c1 => ?_)
  refine lv_iload_n hx hb dX3_signAt_4 rfl (lv_at hl 1 rfl) ?_
  refine lv_aload_n hx hb dX3_signAt_5 rfl (lv_at hl 0 rfl) ?_
  refine va_get (D := D) (ci := 3) (C := RX3) (T := TX3) (N := 2) hx hb hts w1 hown hK.1 hP 0 rfl rfl 1 (by decide) w0 (fun _ h9 => h9) rfl dX3_signAt_6 ?_
  refine kz_icmp_ge (tgt := 27) hx hb dX3_signAt_9 (by decide) (by omega) (by omega) (fun c9 => ?_) (fun c9 => ?_)
  · have hv : pd_s P n i = 0 := hs.2.2.2 (by omega)
    refine lv_iconst (v := iz (0)) hx hb dX3_signAt_27 (by decide) ?_
    refine kz_top (y := pd_s P n i) (by omega) ?_
    exact W.zret hx hb hr (kz_narC (by omega)).1 (fun t ht _ => ⟨_, rfl, rfl, ht⟩) (fun _ h => absurd h List.not_mem_nil) dX3_signAt_28
  · have hv : pd_s P n i = P i := by unfold pd_s; rw [if_pos (by omega)]
    refine lv_iload_n hx hb dX3_signAt_12 rfl (lv_at hl 1 rfl) ?_
    refine lv_bipush (v := iz (80)) hx hb dX3_signAt_13 (by decide) ?_
    refine kz_icmp_ge (tgt := 27) hx hb dX3_signAt_15 (by decide) (by omega) (by omega) (fun c15 => False.elim (by omega)) (fun c15 => ?_)
    refine lv_aload_n hx hb dX3_signAt_18 rfl (lv_at hl 0 rfl) ?_
    refine va_get (D := D) (ci := 3) (C := RX3) (T := TX3) (N := 2) hx hb hts w1 hown hK.1 hP 0 rfl rfl 0 (by decide) w2 (fun _ h9 => h9) rfl dX3_signAt_19 ?_
    refine lv_iload_n hx hb dX3_signAt_22 rfl (lv_at hl 1 rfl) ?_
    refine kz_cald hx hb hK hP (1) rfl (i) (by omega) (by omega) (by omega) dX3_signAt_23 ?_
    refine lv_goto (tgt := 28) hx hb dX3_signAt_24 (by decide) ?_
    refine kz_top (y := pd_s P n i) (by omega) ?_
    exact W.zret hx hb hr (kz_narC (by omega)).1 (fun t ht _ => ⟨_, rfl, rfl, ht⟩) (fun _ h => absurd h List.not_mem_nil) dX3_signAt_28
set_option maxHeartbeats 4000000 in
set_option maxRecDepth 100000 in
theorem c_X3_empty (l : Launch) (D : va_G) (T : Nat → ClassId) (sz : Nat) (hp : Nat) (sg : Nat) (pl : Int) : Met l yX3_empty wsX3_empty ({ frames := 0, cells := 0, slots := 0, locals := 0 }) (kPc D T [.ref hp] (kW D sz [(hp, .inr (3, [.ref sg, .int (iz (pl))]))])) (va_Qi (fun (r : Int32) (u : Unit) => r = iz (pl)) (fun (u : Unit) (t : State) => va_P D vwCl [(hp, .inr (3, [.ref sg, .int (iz (0))]))] t.heap) (va_A [(hp, .inr (3, [.ref sg, .int (iz (pl))]))] sz)) 0 0 (va_A [(hp, .inr (3, [.ref sg, .int (iz (pl))]))] sz) := by
  refine Met.ofW (cc := cX3_empty) (maxL := 2) (ret := (some .int)) (by decide) rfl ?_
  intro p e s m args below meth c s₁ B hml hv
  obtain ⟨rfl, hK, hsz, hP, hD0⟩ := hv
  have hx := B.exec
  have hb := B.bytes
  have hr := B.returns
  have hts := atoms_spec (ws := wsX3_empty) B.pre
  have hown : s.vm.findClass RX3 = some m.cls := findClass_of_methodNamed B.named
  have hlocks := B.notSynchronized
  have w0 := hts (.fieldLink RX3 15 "LakePlant$Pad" "length" "I") (List.mem_of_getElem? (i := 1) rfl)
  have w1 : ∀ w ∈ wsX30, w ∈ wsX3_empty := by decide +kernel
  subst hsz
  have hD := hD0.self (sz := s.heap.size)
  generalize hAe : va_A [(hp, .inr (3, [.ref sg, .int (iz (pl))]))] s.heap.size = A at hD ⊢
  have hA : ∀ q : Nat, s.heap.size ≤ q → A q := fun q h => by rw [← hAe]; exact Or.inr h
  have hS : va_S A s.heap s.heap [] := va_S.rf
  have hP : va_P D vwCl [(hp, .inr (3, [.ref sg, .int (iz (pl))]))] s.heap := hP
  have hl := lv_entry ([.ref hp]) (n := 2) (Nat.le_of_ble_eq_true rfl)
  rw [lg_entry_eq]
  generalize (lg_sl ([.ref hp]) ++ List.replicate (2 - (lg_sl ([.ref hp])).length) Slot.unset).toArray = ls at hl ⊢
  have hl : lv_has ls 2 [(0, .ref hp)] := hl
  refine lv_aload_n hx hb dX3_empty_0 rfl (lv_at hl 0 rfl) ?_
  refine va_get (D := D) (ci := 3) (C := RX3) (T := TX3) (N := 2) hx hb hts w1 hown hK.1 hP 0 rfl rfl 1 (by decide) w0 (fun _ h9 => h9) rfl dX3_empty_1 ?_
  refine lv_istore_n (lv' := [(1, .int (iz (pl))), (0, .ref hp)]) hx hb dX3_empty_4 rfl hl (by decide) rfl (fun ls hl => ?_)
  refine lv_aload_n hx hb dX3_empty_5 rfl (lv_at hl 1 rfl) ?_
  refine lv_iconst (v := iz (0)) hx hb dX3_empty_6 (by decide) ?_
  refine va_put (D := D) (ci := 3) (v := .int (iz (0))) (ty := .int) (C := RX3) (T := TX3) (N := 2) hx hb hts w1 tyX3 tyX3_ok nmX3 hown hK.1 hP hD hS 0 rfl rfl 1 (by decide) w0 (fun _ h9 => h9) rfl (by decide +kernel) rfl rfl (Nat.le_of_ble_eq_true rfl) dX3_empty_7 (fun H locs hP hD hS => ?_)
  have hP : va_P D vwCl [(hp, .inr (3, [.ref sg, .int (iz (0))]))] H := hP
  have hD : va_D A [(hp, .inr (3, [.ref sg, .int (iz (0))]))] := hD
  refine lv_iload_n hx hb dX3_empty_10 rfl (lv_at hl 0 rfl) ?_
  exact W.iret hx hb hr (fun t ht hW => ⟨⟨_, (), rfl, rfl, by show va_P _ _ _ t.heap; rw [ht]; exact hP⟩, hS.F ht⟩) hS.2.2 dX3_empty_11
set_option maxHeartbeats 4000000 in
set_option maxRecDepth 100000 in
theorem c_X4_isDigit (l : Launch) (D : va_G) (T : Nat → ClassId) (ch : Int) (hch : 0 ≤ ch ∧ ch ≤ 65535) : Met l yX4_isDigit wsX4_isDigit ({ frames := 0, cells := 0, slots := 0, locals := 0 }) (kPc D T [.int (iz (ch))] (va_P D vwCl [])) (vp_Si (fun r : Int32 => r = iz (if 48 ≤ ch ∧ ch ≤ 57 then 1 else 0))) 0 0 (fun _ => False) := by
  refine Met.ofW (cc := cX4_isDigit) (maxL := 1) (ret := (some .boolean)) (by decide) rfl ?_
  intro p e s m args below meth c s₁ B hml hv
  obtain ⟨rfl, hK, hP⟩ := hv
  have hx := B.exec
  have hb := B.bytes
  have hr := B.returns
  have hts := atoms_spec (ws := wsX4_isDigit) B.pre
  have hown : s.vm.findClass RX4 = some m.cls := findClass_of_methodNamed B.named
  have hlocks := B.notSynchronized
  have hP : va_P D vwCl [] s.heap := hP
  have hl := lv_entry ([.int (iz (ch))]) (n := 1) (Nat.le_of_ble_eq_true rfl)
  rw [lg_entry_eq]
  generalize (lg_sl ([.int (iz (ch))]) ++ List.replicate (1 - (lg_sl ([.int (iz (ch))])).length) Slot.unset).toArray = ls at hl ⊢
  have hl : lv_has ls 1 [(0, .int (iz (ch)))] := hl
  refine lv_iload_n hx hb dX4_isDigit_0 rfl (lv_at hl 0 rfl) ?_
  refine lv_bipush (v := iz (48)) hx hb dX4_isDigit_1 (by decide) ?_
  refine kz_icmp_lt (tgt := 16) hx hb dX4_isDigit_3 (by decide) (by omega) (by omega) (fun c3 => ?_) (fun c3 => ?_)
  · refine lv_iconst (v := iz (0)) hx hb dX4_isDigit_16 (by decide) ?_
    exact W.zret hx hb hr (kz_nar (by omega)) (fun t ht _ => ⟨_, rfl, (congrArg iz (by first | rfl | omega)), ht⟩) (fun _ h => absurd h List.not_mem_nil) dX4_isDigit_17
  · refine lv_iload_n hx hb dX4_isDigit_6 rfl (lv_at hl 0 rfl) ?_
    refine lv_bipush (v := iz (57)) hx hb dX4_isDigit_7 (by decide) ?_
    refine kz_icmp_gt (tgt := 16) hx hb dX4_isDigit_9 (by decide) (by omega) (by omega) (fun c9 => ?_) (fun c9 => ?_)
    · refine lv_iconst (v := iz (0)) hx hb dX4_isDigit_16 (by decide) ?_
      exact W.zret hx hb hr (kz_nar (by omega)) (fun t ht _ => ⟨_, rfl, (congrArg iz (by first | rfl | omega)), ht⟩) (fun _ h => absurd h List.not_mem_nil) dX4_isDigit_17
    · refine lv_iconst (v := iz (1)) hx hb dX4_isDigit_12 (by decide) ?_
      refine lv_goto (tgt := 17) hx hb dX4_isDigit_13 (by decide) ?_
      exact W.zret hx hb hr (kz_nar (by omega)) (fun t ht _ => ⟨_, rfl, (congrArg iz (by first | rfl | omega)), ht⟩) (fun _ h => absurd h List.not_mem_nil) dX4_isDigit_17
set_option maxHeartbeats 4000000 in
set_option maxRecDepth 100000 in
theorem c_X4_readSign (l : Launch) (D : va_G) (T : Nat → ClassId) (sz : Nat) (ho : Nat) (q2 : Int) (q3 : Int) (q4 : Int) (q5 : Int) (q6 : Int) (q7 : Int) (q8 : Int) (q9 : Int) (hp : Nat) (sg : Nat) (P : Nat → Int) (n : Nat) (hVP : VP P n) (i : Nat) (hi : i ≤ n) (ch : Int) (hch : 0 ≤ ch ∧ ch ≤ 65535) : Met l yX4_readSign wsX4_readSign ({ frames := 1, cells := 0, slots := 0, locals := 21 }) (kPc D T [.ref ho, .int (iz (ch))] (kW D sz [(ho, .inr (4, [.ref hp, .int (iz (((i : Nat) : Int))), .int (iz (q2)), .int (iz (q3)), .int (iz (q4)), .int (iz (q5)), .int (iz (q6)), .int (iz (q7)), .int (iz (q8)), .int (iz (q9))])), (hp, .inr (3, [.ref sg, .int (iz (((n : Nat) : Int)))])), (sg, .inl (T 3, 80, .inl (zA P)))])) (va_Qi (fun (r : Int32) (u : Unit) => r = iz (if pd_s P n i = ch then 1 else 0)) (fun (u : Unit) (t : State) => va_P D vwCl [(ho, .inr (4, [.ref hp, .int (iz (((if pd_s P n i = ch then i + 1 else i : Nat) : Int))), .int (iz (q2)), .int (iz (q3)), .int (iz (q4)), .int (iz (q5)), .int (iz (q6)), .int (iz (q7)), .int (iz (q8)), .int (iz (q9))])), (hp, .inr (3, [.ref sg, .int (iz (((n : Nat) : Int)))])), (sg, .inl (T 3, 80, .inl (zA P)))] t.heap) (va_A [(ho, .inr (4, [.ref hp, .int (iz (((i : Nat) : Int))), .int (iz (q2)), .int (iz (q3)), .int (iz (q4)), .int (iz (q5)), .int (iz (q6)), .int (iz (q7)), .int (iz (q8)), .int (iz (q9))])), (hp, .inr (3, [.ref sg, .int (iz (((n : Nat) : Int)))])), (sg, .inl (T 3, 80, .inl (zA P)))] sz)) 0 0 (va_A [(ho, .inr (4, [.ref hp, .int (iz (((i : Nat) : Int))), .int (iz (q2)), .int (iz (q3)), .int (iz (q4)), .int (iz (q5)), .int (iz (q6)), .int (iz (q7)), .int (iz (q8)), .int (iz (q9))])), (hp, .inr (3, [.ref sg, .int (iz (((n : Nat) : Int)))])), (sg, .inl (T 3, 80, .inl (zA P)))] sz) := by
  refine Met.ofW (cc := cX4_readSign) (maxL := 2) (ret := (some .boolean)) (by decide) rfl ?_
  intro p e s m args below meth c s₁ B hml hv
  obtain ⟨rfl, hK, hsz, hP, hD0⟩ := hv
  have hx := B.exec
  have hb := B.bytes
  have hr := B.returns
  have hts := atoms_spec (ws := wsX4_readSign) B.pre
  have hown : s.vm.findClass RX4 = some m.cls := findClass_of_methodNamed B.named
  have hlocks := B.notSynchronized
  have w0 := hts (.fieldLink RX4 40 "LakePlant$Reader" "pad" "LLakePlant$Pad;") (List.mem_of_getElem? (i := 1) rfl)
  have w1 : ∀ w ∈ wsX40, w ∈ wsX4_readSign := by decide +kernel
  have w2 := hts (.fieldLink RX4 9 "LakePlant$Reader" "at" "I") (List.mem_of_getElem? (i := 2) rfl)
  have w3 := hts (.initialized RX3) (List.mem_of_getElem? (i := 4) rfl)
  have w4 := hts (.instanceMethod yX3_signAt) (List.mem_of_getElem? (i := 3) rfl)
  have w5 := hts (.selects RX3 yX3_signAt yX3_signAt) (List.mem_of_getElem? (i := 5) rfl)
  subst hsz
  have hD := hD0.self (sz := s.heap.size)
  generalize hAe : va_A [(ho, .inr (4, [.ref hp, .int (iz (((i : Nat) : Int))), .int (iz (q2)), .int (iz (q3)), .int (iz (q4)), .int (iz (q5)), .int (iz (q6)), .int (iz (q7)), .int (iz (q8)), .int (iz (q9))])), (hp, .inr (3, [.ref sg, .int (iz (((n : Nat) : Int)))])), (sg, .inl (T 3, 80, .inl (zA P)))] s.heap.size = A at hD ⊢
  have hA : ∀ q : Nat, s.heap.size ≤ q → A q := fun q h => by rw [← hAe]; exact Or.inr h
  have hS : va_S A s.heap s.heap [] := va_S.rf
  have hP : va_P D vwCl [(ho, .inr (4, [.ref hp, .int (iz (((i : Nat) : Int))), .int (iz (q2)), .int (iz (q3)), .int (iz (q4)), .int (iz (q5)), .int (iz (q6)), .int (iz (q7)), .int (iz (q8)), .int (iz (q9))])), (hp, .inr (3, [.ref sg, .int (iz (((n : Nat) : Int)))])), (sg, .inl (T 3, 80, .inl (zA P)))] s.heap := hP
  have hl := lv_entry ([.ref ho, .int (iz (ch))]) (n := 2) (Nat.le_of_ble_eq_true rfl)
  rw [lg_entry_eq]
  generalize (lg_sl ([.ref ho, .int (iz (ch))]) ++ List.replicate (2 - (lg_sl ([.ref ho, .int (iz (ch))])).length) Slot.unset).toArray = ls at hl ⊢
  have hl : lv_has ls 2 [(0, .ref ho), (1, .int (iz (ch)))] := hl
  have hn80 := hVP.1
  have hs := pd_s_rng hVP i
  refine lv_aload_n hx hb dX4_readSign_0 rfl (lv_at hl 0 rfl) ?_
  refine va_get (D := D) (ci := 4) (C := RX4) (T := TX4) (N := 10) hx hb hts w1 hown hK.1 hP 0 rfl rfl 0 (by decide) w0 (fun _ h9 => h9) rfl dX4_readSign_1 ?_
  refine lv_aload_n hx hb dX4_readSign_4 rfl (lv_at hl 0 rfl) ?_
  refine va_get (D := D) (ci := 4) (C := RX4) (T := TX4) (N := 10) hx hb hts w1 hown hK.1 hP 0 rfl rfl 1 (by decide) w2 (fun _ h9 => h9) rfl dX4_readSign_5 ?_
  refine kc_i (va_runVN (As := [.int (iz (((i : Nat) : Int)))]) (rest := []) ⟨hx, hb, hml, hown, hts⟩ (c_X3_signAt l D T hp sg P n hVP i (by omega)) ⟨va_cnB 1 hts gX4_readSign_X3_signAt_n60 rfl rfl rfl (kn_RX4_60 hK) w3 (by decide +kernel) ⟨Nat.le_of_ble_eq_true rfl, Nat.le_of_ble_eq_true rfl⟩, w4, w5⟩ (kPc.v hK (va_recv hK.1 hP (ci := 3) (q0 := 1) rfl rfl) (kcut hP [1, 2] rfl)) rfl rfl hl.1 rfl (lv_room (Nat.le_of_ble_eq_true rfl)) dX4_readSign_8 ⟨Nat.zero_le _, Nat.zero_le _⟩) (fun r1 hr1 => ?_)
  subst hr1
  refine lv_iload_n hx hb dX4_readSign_11 rfl (lv_at hl 1 rfl) ?_
  refine kz_icmp_eq (tgt := 17) hx hb dX4_readSign_12 (by decide) (by omega) (by omega) (fun c12 => ?_) (fun c12 => ?_)
  · refine lv_aload_n hx hb dX4_readSign_17 rfl (lv_at hl 0 rfl) ?_
    refine lv_dup hx hb dX4_readSign_18 rfl ?_
    refine va_get (D := D) (ci := 4) (C := RX4) (T := TX4) (N := 10) hx hb hts w1 hown hK.1 hP 0 rfl rfl 1 (by decide) w2 (fun _ h9 => h9) rfl dX4_readSign_19 ?_
    refine lv_iconst (v := iz (1)) hx hb dX4_readSign_22 (by decide) ?_
    refine kz_add hx hb dX4_readSign_23 ?_
    refine va_put (D := D) (ci := 4) (v := .int (iz (((i : Nat) : Int) + 1))) (ty := .int) (C := RX4) (T := TX4) (N := 10) hx hb hts w1 tyX4 tyX4_ok nmX4 hown hK.1 hP hD hS 0 rfl rfl 1 (by decide) w2 (fun _ h9 => h9) rfl (by decide +kernel) rfl rfl (Nat.le_of_ble_eq_true rfl) dX4_readSign_24 (fun H locs hP hD hS => ?_)
    have hP : va_P D vwCl [(ho, .inr (4, [.ref hp, .int (iz (((i : Nat) : Int) + 1)), .int (iz (q2)), .int (iz (q3)), .int (iz (q4)), .int (iz (q5)), .int (iz (q6)), .int (iz (q7)), .int (iz (q8)), .int (iz (q9))])), (hp, .inr (3, [.ref sg, .int (iz (((n : Nat) : Int)))])), (sg, .inl (T 3, 80, .inl (zA P)))] H := hP
    have hD : va_D A [(ho, .inr (4, [.ref hp, .int (iz (((i : Nat) : Int) + 1)), .int (iz (q2)), .int (iz (q3)), .int (iz (q4)), .int (iz (q5)), .int (iz (q6)), .int (iz (q7)), .int (iz (q8)), .int (iz (q9))])), (hp, .inr (3, [.ref sg, .int (iz (((n : Nat) : Int)))])), (sg, .inl (T 3, 80, .inl (zA P)))] := hD
    refine lv_iconst (v := iz (1)) hx hb dX4_readSign_27 (by decide) ?_
    have hZ : (((i : Nat) : Int) + 1 : Int) = ((if pd_s P n i = ch then i + 1 else i : Nat) : Int) := (by split <;> omega)
    have hP : va_P D vwCl [(ho, .inr (4, [.ref hp, .int (iz (((if pd_s P n i = ch then i + 1 else i : Nat) : Int))), .int (iz (q2)), .int (iz (q3)), .int (iz (q4)), .int (iz (q5)), .int (iz (q6)), .int (iz (q7)), .int (iz (q8)), .int (iz (q9))])), (hp, .inr (3, [.ref sg, .int (iz (((n : Nat) : Int)))])), (sg, .inl (T 3, 80, .inl (zA P)))] H := by rw [← hZ]; exact hP
    have hD : va_D A [(ho, .inr (4, [.ref hp, .int (iz (((if pd_s P n i = ch then i + 1 else i : Nat) : Int))), .int (iz (q2)), .int (iz (q3)), .int (iz (q4)), .int (iz (q5)), .int (iz (q6)), .int (iz (q7)), .int (iz (q8)), .int (iz (q9))])), (hp, .inr (3, [.ref sg, .int (iz (((n : Nat) : Int)))])), (sg, .inl (T 3, 80, .inl (zA P)))] := by rw [← hZ]; exact hD
    exact W.zret hx hb hr (kz_nar (by omega)) (fun t ht hW => ⟨⟨_, (), rfl, (congrArg iz (by split <;> omega)), by show va_P _ _ _ t.heap; rw [ht]; exact hP⟩, hS.F ht⟩) hS.2.2 dX4_readSign_28
  · refine lv_iconst (v := iz (0)) hx hb dX4_readSign_15 (by decide) ?_
    have hZ : (((i : Nat) : Int) : Int) = ((if pd_s P n i = ch then i + 1 else i : Nat) : Int) := (by split <;> omega)
    have hP : va_P D vwCl [(ho, .inr (4, [.ref hp, .int (iz (((if pd_s P n i = ch then i + 1 else i : Nat) : Int))), .int (iz (q2)), .int (iz (q3)), .int (iz (q4)), .int (iz (q5)), .int (iz (q6)), .int (iz (q7)), .int (iz (q8)), .int (iz (q9))])), (hp, .inr (3, [.ref sg, .int (iz (((n : Nat) : Int)))])), (sg, .inl (T 3, 80, .inl (zA P)))] s.heap := by rw [← hZ]; exact hP
    have hD : va_D A [(ho, .inr (4, [.ref hp, .int (iz (((if pd_s P n i = ch then i + 1 else i : Nat) : Int))), .int (iz (q2)), .int (iz (q3)), .int (iz (q4)), .int (iz (q5)), .int (iz (q6)), .int (iz (q7)), .int (iz (q8)), .int (iz (q9))])), (hp, .inr (3, [.ref sg, .int (iz (((n : Nat) : Int)))])), (sg, .inl (T 3, 80, .inl (zA P)))] := by rw [← hZ]; exact hD
    exact W.zret hx hb hr (kz_nar (by omega)) (fun t ht hW => ⟨⟨_, (), rfl, (congrArg iz (by split <;> omega)), by show va_P _ _ _ t.heap; rw [ht]; exact hP⟩, hS.F ht⟩) hS.2.2 dX4_readSign_16
set_option maxHeartbeats 4000000 in
set_option maxRecDepth 100000 in
theorem c_X4_readNumber (l : Launch) (D : va_G) (T : Nat → ClassId) (sz : Nat) (ho : Nat) (q2 : Int) (q3 : Int) (q4 : Int) (q5 : Int) (q6 : Int) (q7 : Int) (q8 : Int) (q9 : Int) (hp : Nat) (sg : Nat) (P : Nat → Int) (n : Nat) (hVP : VP P n) (i : Nat) (hi : i ≤ n) : Met l yX4_readNumber wsX4_readNumber ({ frames := 1, cells := 0, slots := 0, locals := 21 }) (kPc D T [.ref ho] (kW D sz [(ho, .inr (4, [.ref hp, .int (iz (((i : Nat) : Int))), .int (iz (q2)), .int (iz (q3)), .int (iz (q4)), .int (iz (q5)), .int (iz (q6)), .int (iz (q7)), .int (iz (q8)), .int (iz (q9))])), (hp, .inr (3, [.ref sg, .int (iz (((n : Nat) : Int)))])), (sg, .inl (T 3, 80, .inl (zA P)))])) (va_Qi (fun (r : Int32) (u : Unit) => r = iz (if pn_len P n i = 0 then 0 else 1)) (fun (u : Unit) (t : State) => va_P D vwCl [(ho, .inr (4, [.ref hp, .int (iz (((pn_end P n i : Nat) : Int))), .int (iz (if pn_len P n i = 0 then q2 else pn_val P n i)), .int (iz (q3)), .int (iz (q4)), .int (iz (q5)), .int (iz (q6)), .int (iz (q7)), .int (iz (q8)), .int (iz (q9))])), (hp, .inr (3, [.ref sg, .int (iz (((n : Nat) : Int)))])), (sg, .inl (T 3, 80, .inl (zA P)))] t.heap) (va_A [(ho, .inr (4, [.ref hp, .int (iz (((i : Nat) : Int))), .int (iz (q2)), .int (iz (q3)), .int (iz (q4)), .int (iz (q5)), .int (iz (q6)), .int (iz (q7)), .int (iz (q8)), .int (iz (q9))])), (hp, .inr (3, [.ref sg, .int (iz (((n : Nat) : Int)))])), (sg, .inl (T 3, 80, .inl (zA P)))] sz)) 0 0 (va_A [(ho, .inr (4, [.ref hp, .int (iz (((i : Nat) : Int))), .int (iz (q2)), .int (iz (q3)), .int (iz (q4)), .int (iz (q5)), .int (iz (q6)), .int (iz (q7)), .int (iz (q8)), .int (iz (q9))])), (hp, .inr (3, [.ref sg, .int (iz (((n : Nat) : Int)))])), (sg, .inl (T 3, 80, .inl (zA P)))] sz) := by
  refine Met.ofW (cc := cX4_readNumber) (maxL := 2) (ret := (some .boolean)) (by decide) rfl ?_
  intro p e s m args below meth c s₁ B hml hv
  obtain ⟨rfl, hK, hsz, hP, hD0⟩ := hv
  have hx := B.exec
  have hb := B.bytes
  have hr := B.returns
  have hts := atoms_spec (ws := wsX4_readNumber) B.pre
  have hown : s.vm.findClass RX4 = some m.cls := findClass_of_methodNamed B.named
  have hlocks := B.notSynchronized
  have w0 := hts (.fieldLink RX4 40 "LakePlant$Reader" "pad" "LLakePlant$Pad;") (List.mem_of_getElem? (i := 1) rfl)
  have w1 : ∀ w ∈ wsX40, w ∈ wsX4_readNumber := by decide +kernel
  have w2 := hts (.fieldLink RX4 9 "LakePlant$Reader" "at" "I") (List.mem_of_getElem? (i := 2) rfl)
  have w3 := hts (.initialized RX3) (List.mem_of_getElem? (i := 5) rfl)
  have w4 := hts (.instanceMethod yX3_signAt) (List.mem_of_getElem? (i := 4) rfl)
  have w5 := hts (.selects RX3 yX3_signAt yX3_signAt) (List.mem_of_getElem? (i := 6) rfl)
  have w6 := hts (.fieldLink RX4 15 "LakePlant$Reader" "number" "I") (List.mem_of_getElem? (i := 3) rfl)
  subst hsz
  have hD := hD0.self (sz := s.heap.size)
  generalize hAe : va_A [(ho, .inr (4, [.ref hp, .int (iz (((i : Nat) : Int))), .int (iz (q2)), .int (iz (q3)), .int (iz (q4)), .int (iz (q5)), .int (iz (q6)), .int (iz (q7)), .int (iz (q8)), .int (iz (q9))])), (hp, .inr (3, [.ref sg, .int (iz (((n : Nat) : Int)))])), (sg, .inl (T 3, 80, .inl (zA P)))] s.heap.size = A at hD ⊢
  have hA : ∀ q : Nat, s.heap.size ≤ q → A q := fun q h => by rw [← hAe]; exact Or.inr h
  have hS : va_S A s.heap s.heap [] := va_S.rf
  have hP : va_P D vwCl [(ho, .inr (4, [.ref hp, .int (iz (((i : Nat) : Int))), .int (iz (q2)), .int (iz (q3)), .int (iz (q4)), .int (iz (q5)), .int (iz (q6)), .int (iz (q7)), .int (iz (q8)), .int (iz (q9))])), (hp, .inr (3, [.ref sg, .int (iz (((n : Nat) : Int)))])), (sg, .inl (T 3, 80, .inl (zA P)))] s.heap := hP
  have hl := lv_entry ([.ref ho]) (n := 2) (Nat.le_of_ble_eq_true rfl)
  rw [lg_entry_eq]
  generalize (lg_sl ([.ref ho]) ++ List.replicate (2 - (lg_sl ([.ref ho])).length) Slot.unset).toArray = ls at hl ⊢
  have hl : lv_has ls 2 [(0, .ref ho)] := hl
  have hn80 := hVP.1
  have hs := pd_s_rng hVP i
  have hs1 := pd_s_rng hVP (i + 1)
  have hs2 := pd_s_rng hVP (i + 2)
  have hln : pn_len P n i = if 48 ≤ pd_s P n i ∧ pd_s P n i ≤ 57 then (if pd_s P n i = 48 then 1 else if 48 ≤ pd_s P n (i + 1) ∧ pd_s P n (i + 1) ≤ 57 then (if 48 ≤ pd_s P n (i + 2) ∧ pd_s P n (i + 2) ≤ 57 then 3 else 2) else 1) else 0 := rfl
  have hvl : pn_val P n i = if pn_len P n i = 1 then pd_s P n i - 48 else if pn_len P n i = 2 then (pd_s P n i - 48) * 10 + (pd_s P n (i + 1) - 48) else ((pd_s P n i - 48) * 10 + (pd_s P n (i + 1) - 48)) * 10 + (pd_s P n (i + 2) - 48) := rfl
  refine lv_aload_n hx hb dX4_readNumber_0 rfl (lv_at hl 0 rfl) ?_
  refine va_get (D := D) (ci := 4) (C := RX4) (T := TX4) (N := 10) hx hb hts w1 hown hK.1 hP 0 rfl rfl 0 (by decide) w0 (fun _ h9 => h9) rfl dX4_readNumber_1 ?_
  refine lv_aload_n hx hb dX4_readNumber_4 rfl (lv_at hl 0 rfl) ?_
  refine va_get (D := D) (ci := 4) (C := RX4) (T := TX4) (N := 10) hx hb hts w1 hown hK.1 hP 0 rfl rfl 1 (by decide) w2 (fun _ h9 => h9) rfl dX4_readNumber_5 ?_
  refine kc_i (va_runVN (As := [.int (iz (((i : Nat) : Int)))]) (rest := []) ⟨hx, hb, hml, hown, hts⟩ (c_X3_signAt l D T hp sg P n hVP i (by omega)) ⟨va_cnB 1 hts gX4_readNumber_X3_signAt_n60 rfl rfl rfl (kn_RX4_60 hK) w3 (by decide +kernel) ⟨Nat.le_of_ble_eq_true rfl, Nat.le_of_ble_eq_true rfl⟩, w4, w5⟩ (kPc.v hK (va_recv hK.1 hP (ci := 3) (q0 := 1) rfl rfl) (kcut hP [1, 2] rfl)) rfl rfl hl.1 rfl (lv_room (Nat.le_of_ble_eq_true rfl)) dX4_readNumber_8 ⟨Nat.zero_le _, Nat.zero_le _⟩) (fun r1 hr1 => ?_)
  subst hr1
  refine kc_i (va_runS (As := [.int (iz (pd_s P n i))]) (rest := []) ⟨hx, hb, hml, hown, hts⟩ (c_X4_isDigit l D T (pd_s P n i) (by omega)) (va_cwS 1 hts gX4_readNumber_X4_isDigit rfl rfl rfl (by decide +kernel) ⟨Nat.le_of_ble_eq_true rfl, Nat.le_of_ble_eq_true rfl⟩) (kPc.s hK (kcut hP [] rfl)) rfl rfl hl.1 rfl (lv_room (Nat.le_of_ble_eq_true rfl)) dX4_readNumber_11 ⟨Nat.zero_le _, Nat.zero_le _⟩) (fun r2 hr2 => ?_)
  subst hr2
  refine kz_if_ne (tgt := 19) hx hb dX4_readNumber_14 (by decide) (by omega) (fun c14 => ?_) (fun c14 => ?_)
  · refine lv_aload_n hx hb dX4_readNumber_19 rfl (lv_at hl 0 rfl) ?_
    refine lv_iconst (v := iz (0)) hx hb dX4_readNumber_20 (by decide) ?_
    refine va_put (D := D) (ci := 4) (v := .int (iz (0))) (ty := .int) (C := RX4) (T := TX4) (N := 10) hx hb hts w1 tyX4 tyX4_ok nmX4 hown hK.1 hP hD hS 0 rfl rfl 2 (by decide) w6 (fun _ h9 => h9) rfl (by decide +kernel) rfl rfl (Nat.le_of_ble_eq_true rfl) dX4_readNumber_21 (fun H locs hP hD hS => ?_)
    have hP : va_P D vwCl [(ho, .inr (4, [.ref hp, .int (iz (((i : Nat) : Int))), .int (iz (0)), .int (iz (q3)), .int (iz (q4)), .int (iz (q5)), .int (iz (q6)), .int (iz (q7)), .int (iz (q8)), .int (iz (q9))])), (hp, .inr (3, [.ref sg, .int (iz (((n : Nat) : Int)))])), (sg, .inl (T 3, 80, .inl (zA P)))] H := hP
    have hD : va_D A [(ho, .inr (4, [.ref hp, .int (iz (((i : Nat) : Int))), .int (iz (0)), .int (iz (q3)), .int (iz (q4)), .int (iz (q5)), .int (iz (q6)), .int (iz (q7)), .int (iz (q8)), .int (iz (q9))])), (hp, .inr (3, [.ref sg, .int (iz (((n : Nat) : Int)))])), (sg, .inl (T 3, 80, .inl (zA P)))] := hD
    refine lv_iconst (v := iz (0)) hx hb dX4_readNumber_24 (by decide) ?_
    refine lv_istore_n (lv' := [(1, .int (iz (0))), (0, .ref ho)]) hx hb dX4_readNumber_25 rfl hl (by decide) rfl (fun ls hl => ?_)
    refine lv_iload_n hx hb dX4_readNumber_26 rfl (lv_at hl 0 rfl) ?_
    refine lv_iconst (v := iz (3)) hx hb dX4_readNumber_27 (by decide) ?_
    refine kz_icmp_ge (tgt := 103) hx hb dX4_readNumber_28 (by decide) (by omega) (by omega) (fun c28 => False.elim (by omega)) (fun c28 => ?_)
    refine lv_aload_n hx hb dX4_readNumber_31 rfl (lv_at hl 1 rfl) ?_
    refine va_get (D := D) (ci := 4) (C := RX4) (T := TX4) (N := 10) hx hb hts w1 hown hK.1 hP 0 rfl rfl 0 (by decide) w0 (fun _ h9 => h9) rfl dX4_readNumber_32 ?_
    refine lv_aload_n hx hb dX4_readNumber_35 rfl (lv_at hl 1 rfl) ?_
    refine va_get (D := D) (ci := 4) (C := RX4) (T := TX4) (N := 10) hx hb hts w1 hown hK.1 hP 0 rfl rfl 1 (by decide) w2 (fun _ h9 => h9) rfl dX4_readNumber_36 ?_
    refine kc_i (va_runVN (As := [.int (iz (((i : Nat) : Int)))]) (rest := []) ⟨hx, hb, hml, hown, hts⟩ (c_X3_signAt l D T hp sg P n hVP i (by omega)) ⟨va_cnB 1 hts gX4_readNumber_X3_signAt_n60 rfl rfl rfl (kn_RX4_60 hK) w3 (by decide +kernel) ⟨Nat.le_of_ble_eq_true rfl, Nat.le_of_ble_eq_true rfl⟩, w4, w5⟩ (kPc.v hK (va_recv hK.1 hP (ci := 3) (q0 := 1) rfl rfl) (kcut hP [1, 2] rfl)) rfl rfl hl.1 rfl (lv_room (Nat.le_of_ble_eq_true rfl)) dX4_readNumber_39 ⟨Nat.zero_le _, Nat.zero_le _⟩) (fun r3 hr3 => ?_)
    subst hr3
    refine kc_i (va_runS (As := [.int (iz (pd_s P n i))]) (rest := []) ⟨hx, hb, hml, hown, hts⟩ (c_X4_isDigit l D T (pd_s P n i) (by omega)) (va_cwS 1 hts gX4_readNumber_X4_isDigit rfl rfl rfl (by decide +kernel) ⟨Nat.le_of_ble_eq_true rfl, Nat.le_of_ble_eq_true rfl⟩) (kPc.s hK (kcut hP [] rfl)) rfl rfl hl.1 rfl (lv_room (Nat.le_of_ble_eq_true rfl)) dX4_readNumber_42 ⟨Nat.zero_le _, Nat.zero_le _⟩) (fun r4 hr4 => ?_)
    subst hr4
    refine kz_if_eq (tgt := 103) hx hb dX4_readNumber_45 (by decide) (by omega) (fun c45 => ?_) (fun c45 => ?_)
    · have hln2 : pn_len P n i = 0 := by rw [hln]; (repeat' split) <;> omega
      refine lv_iconst (v := iz (1)) hx hb dX4_readNumber_103 (by decide) ?_
      have hZ : (((i : Nat) : Int) : Int) = ((pn_end P n i : Nat) : Int) := (by unfold pn_end; omega)
      have hP : va_P D vwCl [(ho, .inr (4, [.ref hp, .int (iz (((pn_end P n i : Nat) : Int))), .int (iz (0)), .int (iz (q3)), .int (iz (q4)), .int (iz (q5)), .int (iz (q6)), .int (iz (q7)), .int (iz (q8)), .int (iz (q9))])), (hp, .inr (3, [.ref sg, .int (iz (((n : Nat) : Int)))])), (sg, .inl (T 3, 80, .inl (zA P)))] H := by rw [← hZ]; exact hP
      have hD : va_D A [(ho, .inr (4, [.ref hp, .int (iz (((pn_end P n i : Nat) : Int))), .int (iz (0)), .int (iz (q3)), .int (iz (q4)), .int (iz (q5)), .int (iz (q6)), .int (iz (q7)), .int (iz (q8)), .int (iz (q9))])), (hp, .inr (3, [.ref sg, .int (iz (((n : Nat) : Int)))])), (sg, .inl (T 3, 80, .inl (zA P)))] := by rw [← hZ]; exact hD
      have hZ : (0 : Int) = if pn_len P n i = 0 then q2 else pn_val P n i := (by rw [hvl]; omega)
      have hP : va_P D vwCl [(ho, .inr (4, [.ref hp, .int (iz (((pn_end P n i : Nat) : Int))), .int (iz (if pn_len P n i = 0 then q2 else pn_val P n i)), .int (iz (q3)), .int (iz (q4)), .int (iz (q5)), .int (iz (q6)), .int (iz (q7)), .int (iz (q8)), .int (iz (q9))])), (hp, .inr (3, [.ref sg, .int (iz (((n : Nat) : Int)))])), (sg, .inl (T 3, 80, .inl (zA P)))] H := by rw [← hZ]; exact hP
      have hD : va_D A [(ho, .inr (4, [.ref hp, .int (iz (((pn_end P n i : Nat) : Int))), .int (iz (if pn_len P n i = 0 then q2 else pn_val P n i)), .int (iz (q3)), .int (iz (q4)), .int (iz (q5)), .int (iz (q6)), .int (iz (q7)), .int (iz (q8)), .int (iz (q9))])), (hp, .inr (3, [.ref sg, .int (iz (((n : Nat) : Int)))])), (sg, .inl (T 3, 80, .inl (zA P)))] := by rw [← hZ]; exact hD
      exact W.zret hx hb hr (kz_nar (by omega)) (fun t ht hW => ⟨⟨_, (), rfl, (congrArg iz (by omega)), by show va_P _ _ _ t.heap; rw [ht]; exact hP⟩, hS.F ht⟩) hS.2.2 dX4_readNumber_104
    · refine lv_iload_n hx hb dX4_readNumber_48 rfl (lv_at hl 0 rfl) ?_
      refine kz_if_le (tgt := 61) hx hb dX4_readNumber_49 (by decide) (by omega) (fun c49 => ?_) (fun c49 => False.elim (by omega))
      refine lv_aload_n hx hb dX4_readNumber_61 rfl (lv_at hl 1 rfl) ?_
      refine lv_aload_n hx hb dX4_readNumber_62 rfl (lv_at hl 1 rfl) ?_
      refine va_get (D := D) (ci := 4) (C := RX4) (T := TX4) (N := 10) hx hb hts w1 hown hK.1 hP 0 rfl rfl 2 (by decide) w6 (fun _ h9 => h9) rfl dX4_readNumber_63 ?_
      refine lv_bipush (v := iz (10)) hx hb dX4_readNumber_66 (by decide) ?_
      refine kz_mul hx hb dX4_readNumber_68 ?_
      refine lv_aload_n hx hb dX4_readNumber_69 rfl (lv_at hl 1 rfl) ?_
      refine va_get (D := D) (ci := 4) (C := RX4) (T := TX4) (N := 10) hx hb hts w1 hown hK.1 hP 0 rfl rfl 0 (by decide) w0 (fun _ h9 => h9) rfl dX4_readNumber_70 ?_
      refine lv_aload_n hx hb dX4_readNumber_73 rfl (lv_at hl 1 rfl) ?_
      refine va_get (D := D) (ci := 4) (C := RX4) (T := TX4) (N := 10) hx hb hts w1 hown hK.1 hP 0 rfl rfl 1 (by decide) w2 (fun _ h9 => h9) rfl dX4_readNumber_74 ?_
      refine kc_i (va_runVN (As := [.int (iz (((i : Nat) : Int)))]) (rest := [.int (iz (0 * 10)), .ref ho]) ⟨hx, hb, hml, hown, hts⟩ (c_X3_signAt l D T hp sg P n hVP i (by omega)) ⟨va_cnB 1 hts gX4_readNumber_X3_signAt_n60 rfl rfl rfl (kn_RX4_60 hK) w3 (by decide +kernel) ⟨Nat.le_of_ble_eq_true rfl, Nat.le_of_ble_eq_true rfl⟩, w4, w5⟩ (kPc.v hK (va_recv hK.1 hP (ci := 3) (q0 := 1) rfl rfl) (kcut hP [1, 2] rfl)) rfl rfl hl.1 rfl (lv_room (Nat.le_of_ble_eq_true rfl)) dX4_readNumber_77 ⟨Nat.zero_le _, Nat.zero_le _⟩) (fun r5 hr5 => ?_)
      subst hr5
      refine lv_bipush (v := iz (48)) hx hb dX4_readNumber_80 (by decide) ?_
      refine kz_sub hx hb dX4_readNumber_82 ?_
      refine kz_add hx hb dX4_readNumber_83 ?_
      refine va_put (D := D) (ci := 4) (v := .int (iz ((0 * 10) + ((pd_s P n i) - 48)))) (ty := .int) (C := RX4) (T := TX4) (N := 10) hx hb hts w1 tyX4 tyX4_ok nmX4 hown hK.1 hP hD hS 0 rfl rfl 2 (by decide) w6 (fun _ h9 => h9) rfl (by decide +kernel) rfl rfl (Nat.le_of_ble_eq_true rfl) dX4_readNumber_84 (fun H locs hP hD hS => ?_)
      have hP : va_P D vwCl [(ho, .inr (4, [.ref hp, .int (iz (((i : Nat) : Int))), .int (iz ((0 * 10) + ((pd_s P n i) - 48))), .int (iz (q3)), .int (iz (q4)), .int (iz (q5)), .int (iz (q6)), .int (iz (q7)), .int (iz (q8)), .int (iz (q9))])), (hp, .inr (3, [.ref sg, .int (iz (((n : Nat) : Int)))])), (sg, .inl (T 3, 80, .inl (zA P)))] H := hP
      have hD : va_D A [(ho, .inr (4, [.ref hp, .int (iz (((i : Nat) : Int))), .int (iz ((0 * 10) + ((pd_s P n i) - 48))), .int (iz (q3)), .int (iz (q4)), .int (iz (q5)), .int (iz (q6)), .int (iz (q7)), .int (iz (q8)), .int (iz (q9))])), (hp, .inr (3, [.ref sg, .int (iz (((n : Nat) : Int)))])), (sg, .inl (T 3, 80, .inl (zA P)))] := hD
      refine lv_aload_n hx hb dX4_readNumber_87 rfl (lv_at hl 1 rfl) ?_
      refine lv_dup hx hb dX4_readNumber_88 rfl ?_
      refine va_get (D := D) (ci := 4) (C := RX4) (T := TX4) (N := 10) hx hb hts w1 hown hK.1 hP 0 rfl rfl 1 (by decide) w2 (fun _ h9 => h9) rfl dX4_readNumber_89 ?_
      refine lv_iconst (v := iz (1)) hx hb dX4_readNumber_92 (by decide) ?_
      refine kz_add hx hb dX4_readNumber_93 ?_
      refine kz_top (y := ((i + 1 : Nat) : Int)) (by omega) ?_
      refine va_put (D := D) (ci := 4) (v := .int (iz (((i + 1 : Nat) : Int)))) (ty := .int) (C := RX4) (T := TX4) (N := 10) hx hb hts w1 tyX4 tyX4_ok nmX4 hown hK.1 hP hD hS 0 rfl rfl 1 (by decide) w2 (fun _ h9 => h9) rfl (by decide +kernel) rfl rfl (Nat.le_of_ble_eq_true rfl) dX4_readNumber_94 (fun H locs hP hD hS => ?_)
      have hP : va_P D vwCl [(ho, .inr (4, [.ref hp, .int (iz (((i + 1 : Nat) : Int))), .int (iz ((0 * 10) + ((pd_s P n i) - 48))), .int (iz (q3)), .int (iz (q4)), .int (iz (q5)), .int (iz (q6)), .int (iz (q7)), .int (iz (q8)), .int (iz (q9))])), (hp, .inr (3, [.ref sg, .int (iz (((n : Nat) : Int)))])), (sg, .inl (T 3, 80, .inl (zA P)))] H := hP
      have hD : va_D A [(ho, .inr (4, [.ref hp, .int (iz (((i + 1 : Nat) : Int))), .int (iz ((0 * 10) + ((pd_s P n i) - 48))), .int (iz (q3)), .int (iz (q4)), .int (iz (q5)), .int (iz (q6)), .int (iz (q7)), .int (iz (q8)), .int (iz (q9))])), (hp, .inr (3, [.ref sg, .int (iz (((n : Nat) : Int)))])), (sg, .inl (T 3, 80, .inl (zA P)))] := hD
      refine kz_iinc (b := 1) (lv' := [(1, .int (iz (1))), (0, .ref ho)]) hx hb dX4_readNumber_97 hl (k := 0) rfl (by omega) (by decide) rfl (fun ls hl => ?_)
      refine lv_goto (tgt := 26) hx hb dX4_readNumber_100 (by decide) ?_
      refine lv_iload_n hx hb dX4_readNumber_26 rfl (lv_at hl 0 rfl) ?_
      refine lv_iconst (v := iz (3)) hx hb dX4_readNumber_27 (by decide) ?_
      refine kz_icmp_ge (tgt := 103) hx hb dX4_readNumber_28 (by decide) (by omega) (by omega) (fun c28 => False.elim (by omega)) (fun c28 => ?_)
      refine lv_aload_n hx hb dX4_readNumber_31 rfl (lv_at hl 1 rfl) ?_
      refine va_get (D := D) (ci := 4) (C := RX4) (T := TX4) (N := 10) hx hb hts w1 hown hK.1 hP 0 rfl rfl 0 (by decide) w0 (fun _ h9 => h9) rfl dX4_readNumber_32 ?_
      refine lv_aload_n hx hb dX4_readNumber_35 rfl (lv_at hl 1 rfl) ?_
      refine va_get (D := D) (ci := 4) (C := RX4) (T := TX4) (N := 10) hx hb hts w1 hown hK.1 hP 0 rfl rfl 1 (by decide) w2 (fun _ h9 => h9) rfl dX4_readNumber_36 ?_
      refine kc_i (va_runVN (As := [.int (iz (((i + 1 : Nat) : Int)))]) (rest := []) ⟨hx, hb, hml, hown, hts⟩ (c_X3_signAt l D T hp sg P n hVP (i + 1) (by omega)) ⟨va_cnB 1 hts gX4_readNumber_X3_signAt_n60 rfl rfl rfl (kn_RX4_60 hK) w3 (by decide +kernel) ⟨Nat.le_of_ble_eq_true rfl, Nat.le_of_ble_eq_true rfl⟩, w4, w5⟩ (kPc.v hK (va_recv hK.1 hP (ci := 3) (q0 := 1) rfl rfl) (kcut hP [1, 2] rfl)) rfl rfl hl.1 rfl (lv_room (Nat.le_of_ble_eq_true rfl)) dX4_readNumber_39 ⟨Nat.zero_le _, Nat.zero_le _⟩) (fun r6 hr6 => ?_)
      subst hr6
      refine kc_i (va_runS (As := [.int (iz (pd_s P n (i + 1)))]) (rest := []) ⟨hx, hb, hml, hown, hts⟩ (c_X4_isDigit l D T (pd_s P n (i + 1)) (by omega)) (va_cwS 1 hts gX4_readNumber_X4_isDigit rfl rfl rfl (by decide +kernel) ⟨Nat.le_of_ble_eq_true rfl, Nat.le_of_ble_eq_true rfl⟩) (kPc.s hK (kcut hP [] rfl)) rfl rfl hl.1 rfl (lv_room (Nat.le_of_ble_eq_true rfl)) dX4_readNumber_42 ⟨Nat.zero_le _, Nat.zero_le _⟩) (fun r7 hr7 => ?_)
      subst hr7
      refine kz_if_eq (tgt := 103) hx hb dX4_readNumber_45 (by decide) (by omega) (fun c45 => ?_) (fun c45 => ?_)
      · have hln2 : pn_len P n i = 1 := by rw [hln]; (repeat' split) <;> omega
        refine lv_iconst (v := iz (1)) hx hb dX4_readNumber_103 (by decide) ?_
        have hZ : (((i + 1 : Nat) : Int) : Int) = ((pn_end P n i : Nat) : Int) := (by unfold pn_end; omega)
        have hP : va_P D vwCl [(ho, .inr (4, [.ref hp, .int (iz (((pn_end P n i : Nat) : Int))), .int (iz ((0 * 10) + ((pd_s P n i) - 48))), .int (iz (q3)), .int (iz (q4)), .int (iz (q5)), .int (iz (q6)), .int (iz (q7)), .int (iz (q8)), .int (iz (q9))])), (hp, .inr (3, [.ref sg, .int (iz (((n : Nat) : Int)))])), (sg, .inl (T 3, 80, .inl (zA P)))] H := by rw [← hZ]; exact hP
        have hD : va_D A [(ho, .inr (4, [.ref hp, .int (iz (((pn_end P n i : Nat) : Int))), .int (iz ((0 * 10) + ((pd_s P n i) - 48))), .int (iz (q3)), .int (iz (q4)), .int (iz (q5)), .int (iz (q6)), .int (iz (q7)), .int (iz (q8)), .int (iz (q9))])), (hp, .inr (3, [.ref sg, .int (iz (((n : Nat) : Int)))])), (sg, .inl (T 3, 80, .inl (zA P)))] := by rw [← hZ]; exact hD
        have hZ : ((0 * 10) + ((pd_s P n i) - 48) : Int) = if pn_len P n i = 0 then q2 else pn_val P n i := (by rw [hvl]; omega)
        have hP : va_P D vwCl [(ho, .inr (4, [.ref hp, .int (iz (((pn_end P n i : Nat) : Int))), .int (iz (if pn_len P n i = 0 then q2 else pn_val P n i)), .int (iz (q3)), .int (iz (q4)), .int (iz (q5)), .int (iz (q6)), .int (iz (q7)), .int (iz (q8)), .int (iz (q9))])), (hp, .inr (3, [.ref sg, .int (iz (((n : Nat) : Int)))])), (sg, .inl (T 3, 80, .inl (zA P)))] H := by rw [← hZ]; exact hP
        have hD : va_D A [(ho, .inr (4, [.ref hp, .int (iz (((pn_end P n i : Nat) : Int))), .int (iz (if pn_len P n i = 0 then q2 else pn_val P n i)), .int (iz (q3)), .int (iz (q4)), .int (iz (q5)), .int (iz (q6)), .int (iz (q7)), .int (iz (q8)), .int (iz (q9))])), (hp, .inr (3, [.ref sg, .int (iz (((n : Nat) : Int)))])), (sg, .inl (T 3, 80, .inl (zA P)))] := by rw [← hZ]; exact hD
        exact W.zret hx hb hr (kz_nar (by omega)) (fun t ht hW => ⟨⟨_, (), rfl, (congrArg iz (by omega)), by show va_P _ _ _ t.heap; rw [ht]; exact hP⟩, hS.F ht⟩) hS.2.2 dX4_readNumber_104
      · refine lv_iload_n hx hb dX4_readNumber_48 rfl (lv_at hl 0 rfl) ?_
        refine kz_if_le (tgt := 61) hx hb dX4_readNumber_49 (by decide) (by omega) (fun c49 => False.elim (by omega)) (fun c49 => ?_)
        refine lv_aload_n hx hb dX4_readNumber_52 rfl (lv_at hl 1 rfl) ?_
        refine va_get (D := D) (ci := 4) (C := RX4) (T := TX4) (N := 10) hx hb hts w1 hown hK.1 hP 0 rfl rfl 2 (by decide) w6 (fun _ h9 => h9) rfl dX4_readNumber_53 ?_
        refine kz_if_ne (tgt := 61) hx hb dX4_readNumber_56 (by decide) (by omega) (fun c56 => ?_) (fun c56 => ?_)
        · refine lv_aload_n hx hb dX4_readNumber_61 rfl (lv_at hl 1 rfl) ?_
          refine lv_aload_n hx hb dX4_readNumber_62 rfl (lv_at hl 1 rfl) ?_
          refine va_get (D := D) (ci := 4) (C := RX4) (T := TX4) (N := 10) hx hb hts w1 hown hK.1 hP 0 rfl rfl 2 (by decide) w6 (fun _ h9 => h9) rfl dX4_readNumber_63 ?_
          refine lv_bipush (v := iz (10)) hx hb dX4_readNumber_66 (by decide) ?_
          refine kz_mul hx hb dX4_readNumber_68 ?_
          refine lv_aload_n hx hb dX4_readNumber_69 rfl (lv_at hl 1 rfl) ?_
          refine va_get (D := D) (ci := 4) (C := RX4) (T := TX4) (N := 10) hx hb hts w1 hown hK.1 hP 0 rfl rfl 0 (by decide) w0 (fun _ h9 => h9) rfl dX4_readNumber_70 ?_
          refine lv_aload_n hx hb dX4_readNumber_73 rfl (lv_at hl 1 rfl) ?_
          refine va_get (D := D) (ci := 4) (C := RX4) (T := TX4) (N := 10) hx hb hts w1 hown hK.1 hP 0 rfl rfl 1 (by decide) w2 (fun _ h9 => h9) rfl dX4_readNumber_74 ?_
          refine kc_i (va_runVN (As := [.int (iz (((i + 1 : Nat) : Int)))]) (rest := [.int (iz (((0 * 10) + ((pd_s P n i) - 48)) * 10)), .ref ho]) ⟨hx, hb, hml, hown, hts⟩ (c_X3_signAt l D T hp sg P n hVP (i + 1) (by omega)) ⟨va_cnB 1 hts gX4_readNumber_X3_signAt_n60 rfl rfl rfl (kn_RX4_60 hK) w3 (by decide +kernel) ⟨Nat.le_of_ble_eq_true rfl, Nat.le_of_ble_eq_true rfl⟩, w4, w5⟩ (kPc.v hK (va_recv hK.1 hP (ci := 3) (q0 := 1) rfl rfl) (kcut hP [1, 2] rfl)) rfl rfl hl.1 rfl (lv_room (Nat.le_of_ble_eq_true rfl)) dX4_readNumber_77 ⟨Nat.zero_le _, Nat.zero_le _⟩) (fun r8 hr8 => ?_)
          subst hr8
          refine lv_bipush (v := iz (48)) hx hb dX4_readNumber_80 (by decide) ?_
          refine kz_sub hx hb dX4_readNumber_82 ?_
          refine kz_add hx hb dX4_readNumber_83 ?_
          refine va_put (D := D) (ci := 4) (v := .int (iz ((((0 * 10) + ((pd_s P n i) - 48)) * 10) + ((pd_s P n (i + 1)) - 48)))) (ty := .int) (C := RX4) (T := TX4) (N := 10) hx hb hts w1 tyX4 tyX4_ok nmX4 hown hK.1 hP hD hS 0 rfl rfl 2 (by decide) w6 (fun _ h9 => h9) rfl (by decide +kernel) rfl rfl (Nat.le_of_ble_eq_true rfl) dX4_readNumber_84 (fun H locs hP hD hS => ?_)
          have hP : va_P D vwCl [(ho, .inr (4, [.ref hp, .int (iz (((i + 1 : Nat) : Int))), .int (iz ((((0 * 10) + ((pd_s P n i) - 48)) * 10) + ((pd_s P n (i + 1)) - 48))), .int (iz (q3)), .int (iz (q4)), .int (iz (q5)), .int (iz (q6)), .int (iz (q7)), .int (iz (q8)), .int (iz (q9))])), (hp, .inr (3, [.ref sg, .int (iz (((n : Nat) : Int)))])), (sg, .inl (T 3, 80, .inl (zA P)))] H := hP
          have hD : va_D A [(ho, .inr (4, [.ref hp, .int (iz (((i + 1 : Nat) : Int))), .int (iz ((((0 * 10) + ((pd_s P n i) - 48)) * 10) + ((pd_s P n (i + 1)) - 48))), .int (iz (q3)), .int (iz (q4)), .int (iz (q5)), .int (iz (q6)), .int (iz (q7)), .int (iz (q8)), .int (iz (q9))])), (hp, .inr (3, [.ref sg, .int (iz (((n : Nat) : Int)))])), (sg, .inl (T 3, 80, .inl (zA P)))] := hD
          refine lv_aload_n hx hb dX4_readNumber_87 rfl (lv_at hl 1 rfl) ?_
          refine lv_dup hx hb dX4_readNumber_88 rfl ?_
          refine va_get (D := D) (ci := 4) (C := RX4) (T := TX4) (N := 10) hx hb hts w1 hown hK.1 hP 0 rfl rfl 1 (by decide) w2 (fun _ h9 => h9) rfl dX4_readNumber_89 ?_
          refine lv_iconst (v := iz (1)) hx hb dX4_readNumber_92 (by decide) ?_
          refine kz_add hx hb dX4_readNumber_93 ?_
          refine kz_top (y := ((i + 2 : Nat) : Int)) (by omega) ?_
          refine va_put (D := D) (ci := 4) (v := .int (iz (((i + 2 : Nat) : Int)))) (ty := .int) (C := RX4) (T := TX4) (N := 10) hx hb hts w1 tyX4 tyX4_ok nmX4 hown hK.1 hP hD hS 0 rfl rfl 1 (by decide) w2 (fun _ h9 => h9) rfl (by decide +kernel) rfl rfl (Nat.le_of_ble_eq_true rfl) dX4_readNumber_94 (fun H locs hP hD hS => ?_)
          have hP : va_P D vwCl [(ho, .inr (4, [.ref hp, .int (iz (((i + 2 : Nat) : Int))), .int (iz ((((0 * 10) + ((pd_s P n i) - 48)) * 10) + ((pd_s P n (i + 1)) - 48))), .int (iz (q3)), .int (iz (q4)), .int (iz (q5)), .int (iz (q6)), .int (iz (q7)), .int (iz (q8)), .int (iz (q9))])), (hp, .inr (3, [.ref sg, .int (iz (((n : Nat) : Int)))])), (sg, .inl (T 3, 80, .inl (zA P)))] H := hP
          have hD : va_D A [(ho, .inr (4, [.ref hp, .int (iz (((i + 2 : Nat) : Int))), .int (iz ((((0 * 10) + ((pd_s P n i) - 48)) * 10) + ((pd_s P n (i + 1)) - 48))), .int (iz (q3)), .int (iz (q4)), .int (iz (q5)), .int (iz (q6)), .int (iz (q7)), .int (iz (q8)), .int (iz (q9))])), (hp, .inr (3, [.ref sg, .int (iz (((n : Nat) : Int)))])), (sg, .inl (T 3, 80, .inl (zA P)))] := hD
          refine kz_iinc (b := 2) (lv' := [(1, .int (iz (2))), (0, .ref ho)]) hx hb dX4_readNumber_97 hl (k := 0) rfl (by omega) (by decide) rfl (fun ls hl => ?_)
          refine lv_goto (tgt := 26) hx hb dX4_readNumber_100 (by decide) ?_
          refine lv_iload_n hx hb dX4_readNumber_26 rfl (lv_at hl 0 rfl) ?_
          refine lv_iconst (v := iz (3)) hx hb dX4_readNumber_27 (by decide) ?_
          refine kz_icmp_ge (tgt := 103) hx hb dX4_readNumber_28 (by decide) (by omega) (by omega) (fun c28 => False.elim (by omega)) (fun c28 => ?_)
          refine lv_aload_n hx hb dX4_readNumber_31 rfl (lv_at hl 1 rfl) ?_
          refine va_get (D := D) (ci := 4) (C := RX4) (T := TX4) (N := 10) hx hb hts w1 hown hK.1 hP 0 rfl rfl 0 (by decide) w0 (fun _ h9 => h9) rfl dX4_readNumber_32 ?_
          refine lv_aload_n hx hb dX4_readNumber_35 rfl (lv_at hl 1 rfl) ?_
          refine va_get (D := D) (ci := 4) (C := RX4) (T := TX4) (N := 10) hx hb hts w1 hown hK.1 hP 0 rfl rfl 1 (by decide) w2 (fun _ h9 => h9) rfl dX4_readNumber_36 ?_
          refine kc_i (va_runVN (As := [.int (iz (((i + 2 : Nat) : Int)))]) (rest := []) ⟨hx, hb, hml, hown, hts⟩ (c_X3_signAt l D T hp sg P n hVP (i + 2) (by omega)) ⟨va_cnB 1 hts gX4_readNumber_X3_signAt_n60 rfl rfl rfl (kn_RX4_60 hK) w3 (by decide +kernel) ⟨Nat.le_of_ble_eq_true rfl, Nat.le_of_ble_eq_true rfl⟩, w4, w5⟩ (kPc.v hK (va_recv hK.1 hP (ci := 3) (q0 := 1) rfl rfl) (kcut hP [1, 2] rfl)) rfl rfl hl.1 rfl (lv_room (Nat.le_of_ble_eq_true rfl)) dX4_readNumber_39 ⟨Nat.zero_le _, Nat.zero_le _⟩) (fun r9 hr9 => ?_)
          subst hr9
          refine kc_i (va_runS (As := [.int (iz (pd_s P n (i + 2)))]) (rest := []) ⟨hx, hb, hml, hown, hts⟩ (c_X4_isDigit l D T (pd_s P n (i + 2)) (by omega)) (va_cwS 1 hts gX4_readNumber_X4_isDigit rfl rfl rfl (by decide +kernel) ⟨Nat.le_of_ble_eq_true rfl, Nat.le_of_ble_eq_true rfl⟩) (kPc.s hK (kcut hP [] rfl)) rfl rfl hl.1 rfl (lv_room (Nat.le_of_ble_eq_true rfl)) dX4_readNumber_42 ⟨Nat.zero_le _, Nat.zero_le _⟩) (fun r10 hr10 => ?_)
          subst hr10
          refine kz_if_eq (tgt := 103) hx hb dX4_readNumber_45 (by decide) (by omega) (fun c45 => ?_) (fun c45 => ?_)
          · have hln2 : pn_len P n i = 2 := by rw [hln]; (repeat' split) <;> omega
            refine lv_iconst (v := iz (1)) hx hb dX4_readNumber_103 (by decide) ?_
            have hZ : (((i + 2 : Nat) : Int) : Int) = ((pn_end P n i : Nat) : Int) := (by unfold pn_end; omega)
            have hP : va_P D vwCl [(ho, .inr (4, [.ref hp, .int (iz (((pn_end P n i : Nat) : Int))), .int (iz ((((0 * 10) + ((pd_s P n i) - 48)) * 10) + ((pd_s P n (i + 1)) - 48))), .int (iz (q3)), .int (iz (q4)), .int (iz (q5)), .int (iz (q6)), .int (iz (q7)), .int (iz (q8)), .int (iz (q9))])), (hp, .inr (3, [.ref sg, .int (iz (((n : Nat) : Int)))])), (sg, .inl (T 3, 80, .inl (zA P)))] H := by rw [← hZ]; exact hP
            have hD : va_D A [(ho, .inr (4, [.ref hp, .int (iz (((pn_end P n i : Nat) : Int))), .int (iz ((((0 * 10) + ((pd_s P n i) - 48)) * 10) + ((pd_s P n (i + 1)) - 48))), .int (iz (q3)), .int (iz (q4)), .int (iz (q5)), .int (iz (q6)), .int (iz (q7)), .int (iz (q8)), .int (iz (q9))])), (hp, .inr (3, [.ref sg, .int (iz (((n : Nat) : Int)))])), (sg, .inl (T 3, 80, .inl (zA P)))] := by rw [← hZ]; exact hD
            have hZ : ((((0 * 10) + ((pd_s P n i) - 48)) * 10) + ((pd_s P n (i + 1)) - 48) : Int) = if pn_len P n i = 0 then q2 else pn_val P n i := (by rw [hvl]; omega)
            have hP : va_P D vwCl [(ho, .inr (4, [.ref hp, .int (iz (((pn_end P n i : Nat) : Int))), .int (iz (if pn_len P n i = 0 then q2 else pn_val P n i)), .int (iz (q3)), .int (iz (q4)), .int (iz (q5)), .int (iz (q6)), .int (iz (q7)), .int (iz (q8)), .int (iz (q9))])), (hp, .inr (3, [.ref sg, .int (iz (((n : Nat) : Int)))])), (sg, .inl (T 3, 80, .inl (zA P)))] H := by rw [← hZ]; exact hP
            have hD : va_D A [(ho, .inr (4, [.ref hp, .int (iz (((pn_end P n i : Nat) : Int))), .int (iz (if pn_len P n i = 0 then q2 else pn_val P n i)), .int (iz (q3)), .int (iz (q4)), .int (iz (q5)), .int (iz (q6)), .int (iz (q7)), .int (iz (q8)), .int (iz (q9))])), (hp, .inr (3, [.ref sg, .int (iz (((n : Nat) : Int)))])), (sg, .inl (T 3, 80, .inl (zA P)))] := by rw [← hZ]; exact hD
            exact W.zret hx hb hr (kz_nar (by omega)) (fun t ht hW => ⟨⟨_, (), rfl, (congrArg iz (by omega)), by show va_P _ _ _ t.heap; rw [ht]; exact hP⟩, hS.F ht⟩) hS.2.2 dX4_readNumber_104
          · refine lv_iload_n hx hb dX4_readNumber_48 rfl (lv_at hl 0 rfl) ?_
            refine kz_if_le (tgt := 61) hx hb dX4_readNumber_49 (by decide) (by omega) (fun c49 => False.elim (by omega)) (fun c49 => ?_)
            refine lv_aload_n hx hb dX4_readNumber_52 rfl (lv_at hl 1 rfl) ?_
            refine va_get (D := D) (ci := 4) (C := RX4) (T := TX4) (N := 10) hx hb hts w1 hown hK.1 hP 0 rfl rfl 2 (by decide) w6 (fun _ h9 => h9) rfl dX4_readNumber_53 ?_
            refine kz_if_ne (tgt := 61) hx hb dX4_readNumber_56 (by decide) (by omega) (fun c56 => ?_) (fun c56 => ?_)
            · refine lv_aload_n hx hb dX4_readNumber_61 rfl (lv_at hl 1 rfl) ?_
              refine lv_aload_n hx hb dX4_readNumber_62 rfl (lv_at hl 1 rfl) ?_
              refine va_get (D := D) (ci := 4) (C := RX4) (T := TX4) (N := 10) hx hb hts w1 hown hK.1 hP 0 rfl rfl 2 (by decide) w6 (fun _ h9 => h9) rfl dX4_readNumber_63 ?_
              refine lv_bipush (v := iz (10)) hx hb dX4_readNumber_66 (by decide) ?_
              refine kz_mul hx hb dX4_readNumber_68 ?_
              refine lv_aload_n hx hb dX4_readNumber_69 rfl (lv_at hl 1 rfl) ?_
              refine va_get (D := D) (ci := 4) (C := RX4) (T := TX4) (N := 10) hx hb hts w1 hown hK.1 hP 0 rfl rfl 0 (by decide) w0 (fun _ h9 => h9) rfl dX4_readNumber_70 ?_
              refine lv_aload_n hx hb dX4_readNumber_73 rfl (lv_at hl 1 rfl) ?_
              refine va_get (D := D) (ci := 4) (C := RX4) (T := TX4) (N := 10) hx hb hts w1 hown hK.1 hP 0 rfl rfl 1 (by decide) w2 (fun _ h9 => h9) rfl dX4_readNumber_74 ?_
              refine kc_i (va_runVN (As := [.int (iz (((i + 2 : Nat) : Int)))]) (rest := [.int (iz (((((0 * 10) + ((pd_s P n i) - 48)) * 10) + ((pd_s P n (i + 1)) - 48)) * 10)), .ref ho]) ⟨hx, hb, hml, hown, hts⟩ (c_X3_signAt l D T hp sg P n hVP (i + 2) (by omega)) ⟨va_cnB 1 hts gX4_readNumber_X3_signAt_n60 rfl rfl rfl (kn_RX4_60 hK) w3 (by decide +kernel) ⟨Nat.le_of_ble_eq_true rfl, Nat.le_of_ble_eq_true rfl⟩, w4, w5⟩ (kPc.v hK (va_recv hK.1 hP (ci := 3) (q0 := 1) rfl rfl) (kcut hP [1, 2] rfl)) rfl rfl hl.1 rfl (lv_room (Nat.le_of_ble_eq_true rfl)) dX4_readNumber_77 ⟨Nat.zero_le _, Nat.zero_le _⟩) (fun r11 hr11 => ?_)
              subst hr11
              refine lv_bipush (v := iz (48)) hx hb dX4_readNumber_80 (by decide) ?_
              refine kz_sub hx hb dX4_readNumber_82 ?_
              refine kz_add hx hb dX4_readNumber_83 ?_
              refine va_put (D := D) (ci := 4) (v := .int (iz ((((((0 * 10) + ((pd_s P n i) - 48)) * 10) + ((pd_s P n (i + 1)) - 48)) * 10) + ((pd_s P n (i + 2)) - 48)))) (ty := .int) (C := RX4) (T := TX4) (N := 10) hx hb hts w1 tyX4 tyX4_ok nmX4 hown hK.1 hP hD hS 0 rfl rfl 2 (by decide) w6 (fun _ h9 => h9) rfl (by decide +kernel) rfl rfl (Nat.le_of_ble_eq_true rfl) dX4_readNumber_84 (fun H locs hP hD hS => ?_)
              have hP : va_P D vwCl [(ho, .inr (4, [.ref hp, .int (iz (((i + 2 : Nat) : Int))), .int (iz ((((((0 * 10) + ((pd_s P n i) - 48)) * 10) + ((pd_s P n (i + 1)) - 48)) * 10) + ((pd_s P n (i + 2)) - 48))), .int (iz (q3)), .int (iz (q4)), .int (iz (q5)), .int (iz (q6)), .int (iz (q7)), .int (iz (q8)), .int (iz (q9))])), (hp, .inr (3, [.ref sg, .int (iz (((n : Nat) : Int)))])), (sg, .inl (T 3, 80, .inl (zA P)))] H := hP
              have hD : va_D A [(ho, .inr (4, [.ref hp, .int (iz (((i + 2 : Nat) : Int))), .int (iz ((((((0 * 10) + ((pd_s P n i) - 48)) * 10) + ((pd_s P n (i + 1)) - 48)) * 10) + ((pd_s P n (i + 2)) - 48))), .int (iz (q3)), .int (iz (q4)), .int (iz (q5)), .int (iz (q6)), .int (iz (q7)), .int (iz (q8)), .int (iz (q9))])), (hp, .inr (3, [.ref sg, .int (iz (((n : Nat) : Int)))])), (sg, .inl (T 3, 80, .inl (zA P)))] := hD
              refine lv_aload_n hx hb dX4_readNumber_87 rfl (lv_at hl 1 rfl) ?_
              refine lv_dup hx hb dX4_readNumber_88 rfl ?_
              refine va_get (D := D) (ci := 4) (C := RX4) (T := TX4) (N := 10) hx hb hts w1 hown hK.1 hP 0 rfl rfl 1 (by decide) w2 (fun _ h9 => h9) rfl dX4_readNumber_89 ?_
              refine lv_iconst (v := iz (1)) hx hb dX4_readNumber_92 (by decide) ?_
              refine kz_add hx hb dX4_readNumber_93 ?_
              refine kz_top (y := ((i + 3 : Nat) : Int)) (by omega) ?_
              refine va_put (D := D) (ci := 4) (v := .int (iz (((i + 3 : Nat) : Int)))) (ty := .int) (C := RX4) (T := TX4) (N := 10) hx hb hts w1 tyX4 tyX4_ok nmX4 hown hK.1 hP hD hS 0 rfl rfl 1 (by decide) w2 (fun _ h9 => h9) rfl (by decide +kernel) rfl rfl (Nat.le_of_ble_eq_true rfl) dX4_readNumber_94 (fun H locs hP hD hS => ?_)
              have hP : va_P D vwCl [(ho, .inr (4, [.ref hp, .int (iz (((i + 3 : Nat) : Int))), .int (iz ((((((0 * 10) + ((pd_s P n i) - 48)) * 10) + ((pd_s P n (i + 1)) - 48)) * 10) + ((pd_s P n (i + 2)) - 48))), .int (iz (q3)), .int (iz (q4)), .int (iz (q5)), .int (iz (q6)), .int (iz (q7)), .int (iz (q8)), .int (iz (q9))])), (hp, .inr (3, [.ref sg, .int (iz (((n : Nat) : Int)))])), (sg, .inl (T 3, 80, .inl (zA P)))] H := hP
              have hD : va_D A [(ho, .inr (4, [.ref hp, .int (iz (((i + 3 : Nat) : Int))), .int (iz ((((((0 * 10) + ((pd_s P n i) - 48)) * 10) + ((pd_s P n (i + 1)) - 48)) * 10) + ((pd_s P n (i + 2)) - 48))), .int (iz (q3)), .int (iz (q4)), .int (iz (q5)), .int (iz (q6)), .int (iz (q7)), .int (iz (q8)), .int (iz (q9))])), (hp, .inr (3, [.ref sg, .int (iz (((n : Nat) : Int)))])), (sg, .inl (T 3, 80, .inl (zA P)))] := hD
              refine kz_iinc (b := 3) (lv' := [(1, .int (iz (3))), (0, .ref ho)]) hx hb dX4_readNumber_97 hl (k := 0) rfl (by omega) (by decide) rfl (fun ls hl => ?_)
              refine lv_goto (tgt := 26) hx hb dX4_readNumber_100 (by decide) ?_
              refine lv_iload_n hx hb dX4_readNumber_26 rfl (lv_at hl 0 rfl) ?_
              refine lv_iconst (v := iz (3)) hx hb dX4_readNumber_27 (by decide) ?_
              refine kz_icmp_ge (tgt := 103) hx hb dX4_readNumber_28 (by decide) (by omega) (by omega) (fun c28 => ?_) (fun c28 => False.elim (by omega))
              have hln2 : pn_len P n i = 3 := by rw [hln]; (repeat' split) <;> omega
              refine lv_iconst (v := iz (1)) hx hb dX4_readNumber_103 (by decide) ?_
              have hZ : (((i + 3 : Nat) : Int) : Int) = ((pn_end P n i : Nat) : Int) := (by unfold pn_end; omega)
              have hP : va_P D vwCl [(ho, .inr (4, [.ref hp, .int (iz (((pn_end P n i : Nat) : Int))), .int (iz ((((((0 * 10) + ((pd_s P n i) - 48)) * 10) + ((pd_s P n (i + 1)) - 48)) * 10) + ((pd_s P n (i + 2)) - 48))), .int (iz (q3)), .int (iz (q4)), .int (iz (q5)), .int (iz (q6)), .int (iz (q7)), .int (iz (q8)), .int (iz (q9))])), (hp, .inr (3, [.ref sg, .int (iz (((n : Nat) : Int)))])), (sg, .inl (T 3, 80, .inl (zA P)))] H := by rw [← hZ]; exact hP
              have hD : va_D A [(ho, .inr (4, [.ref hp, .int (iz (((pn_end P n i : Nat) : Int))), .int (iz ((((((0 * 10) + ((pd_s P n i) - 48)) * 10) + ((pd_s P n (i + 1)) - 48)) * 10) + ((pd_s P n (i + 2)) - 48))), .int (iz (q3)), .int (iz (q4)), .int (iz (q5)), .int (iz (q6)), .int (iz (q7)), .int (iz (q8)), .int (iz (q9))])), (hp, .inr (3, [.ref sg, .int (iz (((n : Nat) : Int)))])), (sg, .inl (T 3, 80, .inl (zA P)))] := by rw [← hZ]; exact hD
              have hZ : ((((((0 * 10) + ((pd_s P n i) - 48)) * 10) + ((pd_s P n (i + 1)) - 48)) * 10) + ((pd_s P n (i + 2)) - 48) : Int) = if pn_len P n i = 0 then q2 else pn_val P n i := (by rw [hvl]; omega)
              have hP : va_P D vwCl [(ho, .inr (4, [.ref hp, .int (iz (((pn_end P n i : Nat) : Int))), .int (iz (if pn_len P n i = 0 then q2 else pn_val P n i)), .int (iz (q3)), .int (iz (q4)), .int (iz (q5)), .int (iz (q6)), .int (iz (q7)), .int (iz (q8)), .int (iz (q9))])), (hp, .inr (3, [.ref sg, .int (iz (((n : Nat) : Int)))])), (sg, .inl (T 3, 80, .inl (zA P)))] H := by rw [← hZ]; exact hP
              have hD : va_D A [(ho, .inr (4, [.ref hp, .int (iz (((pn_end P n i : Nat) : Int))), .int (iz (if pn_len P n i = 0 then q2 else pn_val P n i)), .int (iz (q3)), .int (iz (q4)), .int (iz (q5)), .int (iz (q6)), .int (iz (q7)), .int (iz (q8)), .int (iz (q9))])), (hp, .inr (3, [.ref sg, .int (iz (((n : Nat) : Int)))])), (sg, .inl (T 3, 80, .inl (zA P)))] := by rw [← hZ]; exact hD
              exact W.zret hx hb hr (kz_nar (by omega)) (fun t ht hW => ⟨⟨_, (), rfl, (congrArg iz (by omega)), by show va_P _ _ _ t.heap; rw [ht]; exact hP⟩, hS.F ht⟩) hS.2.2 dX4_readNumber_104
            · have hln2 : pn_len P n i = 2 := by rw [hln]; (repeat' split) <;> omega
              refine lv_iconst (v := iz (1)) hx hb dX4_readNumber_59 (by decide) ?_
              have hZ : (((i + 2 : Nat) : Int) : Int) = ((pn_end P n i : Nat) : Int) := (by unfold pn_end; omega)
              have hP : va_P D vwCl [(ho, .inr (4, [.ref hp, .int (iz (((pn_end P n i : Nat) : Int))), .int (iz ((((0 * 10) + ((pd_s P n i) - 48)) * 10) + ((pd_s P n (i + 1)) - 48))), .int (iz (q3)), .int (iz (q4)), .int (iz (q5)), .int (iz (q6)), .int (iz (q7)), .int (iz (q8)), .int (iz (q9))])), (hp, .inr (3, [.ref sg, .int (iz (((n : Nat) : Int)))])), (sg, .inl (T 3, 80, .inl (zA P)))] H := by rw [← hZ]; exact hP
              have hD : va_D A [(ho, .inr (4, [.ref hp, .int (iz (((pn_end P n i : Nat) : Int))), .int (iz ((((0 * 10) + ((pd_s P n i) - 48)) * 10) + ((pd_s P n (i + 1)) - 48))), .int (iz (q3)), .int (iz (q4)), .int (iz (q5)), .int (iz (q6)), .int (iz (q7)), .int (iz (q8)), .int (iz (q9))])), (hp, .inr (3, [.ref sg, .int (iz (((n : Nat) : Int)))])), (sg, .inl (T 3, 80, .inl (zA P)))] := by rw [← hZ]; exact hD
              have hZ : ((((0 * 10) + ((pd_s P n i) - 48)) * 10) + ((pd_s P n (i + 1)) - 48) : Int) = if pn_len P n i = 0 then q2 else pn_val P n i := (by rw [hvl]; omega)
              have hP : va_P D vwCl [(ho, .inr (4, [.ref hp, .int (iz (((pn_end P n i : Nat) : Int))), .int (iz (if pn_len P n i = 0 then q2 else pn_val P n i)), .int (iz (q3)), .int (iz (q4)), .int (iz (q5)), .int (iz (q6)), .int (iz (q7)), .int (iz (q8)), .int (iz (q9))])), (hp, .inr (3, [.ref sg, .int (iz (((n : Nat) : Int)))])), (sg, .inl (T 3, 80, .inl (zA P)))] H := by rw [← hZ]; exact hP
              have hD : va_D A [(ho, .inr (4, [.ref hp, .int (iz (((pn_end P n i : Nat) : Int))), .int (iz (if pn_len P n i = 0 then q2 else pn_val P n i)), .int (iz (q3)), .int (iz (q4)), .int (iz (q5)), .int (iz (q6)), .int (iz (q7)), .int (iz (q8)), .int (iz (q9))])), (hp, .inr (3, [.ref sg, .int (iz (((n : Nat) : Int)))])), (sg, .inl (T 3, 80, .inl (zA P)))] := by rw [← hZ]; exact hD
              exact W.zret hx hb hr (kz_nar (by omega)) (fun t ht hW => ⟨⟨_, (), rfl, (congrArg iz (by omega)), by show va_P _ _ _ t.heap; rw [ht]; exact hP⟩, hS.F ht⟩) hS.2.2 dX4_readNumber_60
        · have hln2 : pn_len P n i = 1 := by rw [hln]; (repeat' split) <;> omega
          refine lv_iconst (v := iz (1)) hx hb dX4_readNumber_59 (by decide) ?_
          have hZ : (((i + 1 : Nat) : Int) : Int) = ((pn_end P n i : Nat) : Int) := (by unfold pn_end; omega)
          have hP : va_P D vwCl [(ho, .inr (4, [.ref hp, .int (iz (((pn_end P n i : Nat) : Int))), .int (iz ((0 * 10) + ((pd_s P n i) - 48))), .int (iz (q3)), .int (iz (q4)), .int (iz (q5)), .int (iz (q6)), .int (iz (q7)), .int (iz (q8)), .int (iz (q9))])), (hp, .inr (3, [.ref sg, .int (iz (((n : Nat) : Int)))])), (sg, .inl (T 3, 80, .inl (zA P)))] H := by rw [← hZ]; exact hP
          have hD : va_D A [(ho, .inr (4, [.ref hp, .int (iz (((pn_end P n i : Nat) : Int))), .int (iz ((0 * 10) + ((pd_s P n i) - 48))), .int (iz (q3)), .int (iz (q4)), .int (iz (q5)), .int (iz (q6)), .int (iz (q7)), .int (iz (q8)), .int (iz (q9))])), (hp, .inr (3, [.ref sg, .int (iz (((n : Nat) : Int)))])), (sg, .inl (T 3, 80, .inl (zA P)))] := by rw [← hZ]; exact hD
          have hZ : ((0 * 10) + ((pd_s P n i) - 48) : Int) = if pn_len P n i = 0 then q2 else pn_val P n i := (by rw [hvl]; omega)
          have hP : va_P D vwCl [(ho, .inr (4, [.ref hp, .int (iz (((pn_end P n i : Nat) : Int))), .int (iz (if pn_len P n i = 0 then q2 else pn_val P n i)), .int (iz (q3)), .int (iz (q4)), .int (iz (q5)), .int (iz (q6)), .int (iz (q7)), .int (iz (q8)), .int (iz (q9))])), (hp, .inr (3, [.ref sg, .int (iz (((n : Nat) : Int)))])), (sg, .inl (T 3, 80, .inl (zA P)))] H := by rw [← hZ]; exact hP
          have hD : va_D A [(ho, .inr (4, [.ref hp, .int (iz (((pn_end P n i : Nat) : Int))), .int (iz (if pn_len P n i = 0 then q2 else pn_val P n i)), .int (iz (q3)), .int (iz (q4)), .int (iz (q5)), .int (iz (q6)), .int (iz (q7)), .int (iz (q8)), .int (iz (q9))])), (hp, .inr (3, [.ref sg, .int (iz (((n : Nat) : Int)))])), (sg, .inl (T 3, 80, .inl (zA P)))] := by rw [← hZ]; exact hD
          exact W.zret hx hb hr (kz_nar (by omega)) (fun t ht hW => ⟨⟨_, (), rfl, (congrArg iz (by omega)), by show va_P _ _ _ t.heap; rw [ht]; exact hP⟩, hS.F ht⟩) hS.2.2 dX4_readNumber_60
  · have hln2 : pn_len P n i = 0 := by rw [hln]; (repeat' split) <;> omega
    refine lv_iconst (v := iz (0)) hx hb dX4_readNumber_17 (by decide) ?_
    have hZ : (((i : Nat) : Int) : Int) = ((pn_end P n i : Nat) : Int) := (by unfold pn_end; omega)
    have hP : va_P D vwCl [(ho, .inr (4, [.ref hp, .int (iz (((pn_end P n i : Nat) : Int))), .int (iz (q2)), .int (iz (q3)), .int (iz (q4)), .int (iz (q5)), .int (iz (q6)), .int (iz (q7)), .int (iz (q8)), .int (iz (q9))])), (hp, .inr (3, [.ref sg, .int (iz (((n : Nat) : Int)))])), (sg, .inl (T 3, 80, .inl (zA P)))] s.heap := by rw [← hZ]; exact hP
    have hD : va_D A [(ho, .inr (4, [.ref hp, .int (iz (((pn_end P n i : Nat) : Int))), .int (iz (q2)), .int (iz (q3)), .int (iz (q4)), .int (iz (q5)), .int (iz (q6)), .int (iz (q7)), .int (iz (q8)), .int (iz (q9))])), (hp, .inr (3, [.ref sg, .int (iz (((n : Nat) : Int)))])), (sg, .inl (T 3, 80, .inl (zA P)))] := by rw [← hZ]; exact hD
    have hZ : (q2 : Int) = if pn_len P n i = 0 then q2 else pn_val P n i := (by rw [hvl]; omega)
    have hP : va_P D vwCl [(ho, .inr (4, [.ref hp, .int (iz (((pn_end P n i : Nat) : Int))), .int (iz (if pn_len P n i = 0 then q2 else pn_val P n i)), .int (iz (q3)), .int (iz (q4)), .int (iz (q5)), .int (iz (q6)), .int (iz (q7)), .int (iz (q8)), .int (iz (q9))])), (hp, .inr (3, [.ref sg, .int (iz (((n : Nat) : Int)))])), (sg, .inl (T 3, 80, .inl (zA P)))] s.heap := by rw [← hZ]; exact hP
    have hD : va_D A [(ho, .inr (4, [.ref hp, .int (iz (((pn_end P n i : Nat) : Int))), .int (iz (if pn_len P n i = 0 then q2 else pn_val P n i)), .int (iz (q3)), .int (iz (q4)), .int (iz (q5)), .int (iz (q6)), .int (iz (q7)), .int (iz (q8)), .int (iz (q9))])), (hp, .inr (3, [.ref sg, .int (iz (((n : Nat) : Int)))])), (sg, .inl (T 3, 80, .inl (zA P)))] := by rw [← hZ]; exact hD
    exact W.zret hx hb hr (kz_nar (by omega)) (fun t ht hW => ⟨⟨_, (), rfl, (congrArg iz (by omega)), by show va_P _ _ _ t.heap; rw [ht]; exact hP⟩, hS.F ht⟩) hS.2.2 dX4_readNumber_18
