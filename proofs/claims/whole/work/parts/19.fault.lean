set_option maxHeartbeats 4000000 in
set_option maxRecDepth 100000 in
theorem c_X4_toTheBegin (l : Launch) (D : va_G) (T : Nat → ClassId) (sz : Nat) (ho : Nat) (hp : Nat) (q1 : Int) (q2 : Int) (q3 : Int) (q4 : Int) (q5 : Int) (q6 : Int) (q7 : Int) (q8 : Int) (q9 : Int) : Met l yX4_toTheBegin wsX4_toTheBegin ({ frames := 0, cells := 0, slots := 0, locals := 0 }) (kPc D T [.ref ho] (kW D sz [(ho, .inr (4, [.ref hp, .int (iz (q1)), .int (iz (q2)), .int (iz (q3)), .int (iz (q4)), .int (iz (q5)), .int (iz (q6)), .int (iz (q7)), .int (iz (q8)), .int (iz (q9))]))])) (va_Qv (fun (u : Unit) => True) (fun (u : Unit) (t : State) => va_P D vwCl [(ho, .inr (4, [.ref hp, .int (iz (0)), .int (iz (q2)), .int (iz (q3)), .int (iz (q4)), .int (iz (q5)), .int (iz (q6)), .int (iz (q7)), .int (iz (q8)), .int (iz (q9))]))] t.heap) (va_A [(ho, .inr (4, [.ref hp, .int (iz (q1)), .int (iz (q2)), .int (iz (q3)), .int (iz (q4)), .int (iz (q5)), .int (iz (q6)), .int (iz (q7)), .int (iz (q8)), .int (iz (q9))]))] sz)) 0 0 (va_A [(ho, .inr (4, [.ref hp, .int (iz (q1)), .int (iz (q2)), .int (iz (q3)), .int (iz (q4)), .int (iz (q5)), .int (iz (q6)), .int (iz (q7)), .int (iz (q8)), .int (iz (q9))]))] sz) := by
  refine Met.ofW (cc := cX4_toTheBegin) (maxL := 1) (ret := none) (by decide) rfl ?_
  intro p e s m args below meth c s₁ B hml hv
  obtain ⟨rfl, hK, hsz, hP, hD0⟩ := hv
  have hx := B.exec
  have hb := B.bytes
  have hr := B.returns
  have hts := atoms_spec (ws := wsX4_toTheBegin) B.pre
  have hown : s.vm.findClass RX4 = some m.cls := findClass_of_methodNamed B.named
  have hlocks := B.notSynchronized
  have w0 := hts (.fieldLink RX4 9 "LakePlant$Reader" "at" "I") (List.mem_of_getElem? (i := 1) rfl)
  have w1 : ∀ w ∈ wsX40, w ∈ wsX4_toTheBegin := by decide +kernel
  subst hsz
  have hD := hD0.self (sz := s.heap.size)
  generalize hAe : va_A [(ho, .inr (4, [.ref hp, .int (iz (q1)), .int (iz (q2)), .int (iz (q3)), .int (iz (q4)), .int (iz (q5)), .int (iz (q6)), .int (iz (q7)), .int (iz (q8)), .int (iz (q9))]))] s.heap.size = A at hD ⊢
  have hA : ∀ q : Nat, s.heap.size ≤ q → A q := fun q h => by rw [← hAe]; exact Or.inr h
  have hS : va_S A s.heap s.heap [] := va_S.rf
  have hP : va_P D vwCl [(ho, .inr (4, [.ref hp, .int (iz (q1)), .int (iz (q2)), .int (iz (q3)), .int (iz (q4)), .int (iz (q5)), .int (iz (q6)), .int (iz (q7)), .int (iz (q8)), .int (iz (q9))]))] s.heap := hP
  have hl := lv_entry ([.ref ho]) (n := 1) (Nat.le_of_ble_eq_true rfl)
  rw [lg_entry_eq]
  generalize (lg_sl ([.ref ho]) ++ List.replicate (1 - (lg_sl ([.ref ho])).length) Slot.unset).toArray = ls at hl ⊢
  have hl : lv_has ls 1 [(0, .ref ho)] := hl
  refine lv_aload_n hx hb dX4_toTheBegin_0 rfl (lv_at hl 0 rfl) ?_
  refine lv_iconst (v := iz (0)) hx hb dX4_toTheBegin_1 (by decide) ?_
  refine va_put (D := D) (ci := 4) (v := .int (iz (0))) (ty := .int) (C := RX4) (T := TX4) (N := 10) hx hb hts w1 tyX4 tyX4_ok nmX4 hown hK.1 hP hD hS 0 rfl rfl 1 (by decide) w0 (fun _ h9 => h9) rfl (by decide +kernel) rfl rfl (Nat.le_of_ble_eq_true rfl) dX4_toTheBegin_2 (fun H locs hP hD hS => ?_)
  have hP : va_P D vwCl [(ho, .inr (4, [.ref hp, .int (iz (0)), .int (iz (q2)), .int (iz (q3)), .int (iz (q4)), .int (iz (q5)), .int (iz (q6)), .int (iz (q7)), .int (iz (q8)), .int (iz (q9))]))] H := hP
  have hD : va_D A [(ho, .inr (4, [.ref hp, .int (iz (0)), .int (iz (q2)), .int (iz (q3)), .int (iz (q4)), .int (iz (q5)), .int (iz (q6)), .int (iz (q7)), .int (iz (q8)), .int (iz (q9))]))] := hD
  exact W.vret hx hb hr (fun t ht hW => ⟨⟨(), rfl, trivial, by show va_P _ _ _ t.heap; rw [ht]; exact hP⟩, hS.F ht⟩) hS.2.2 dX4_toTheBegin_5
set_option maxHeartbeats 4000000 in
set_option maxRecDepth 100000 in
theorem c_X4_findFault (l : Launch) (D : va_G) (T : Nat → ClassId) (sz : Nat) (ho : Nat) (q1 : Int) (q2 : Int) (q3 : Int) (q4 : Int) (q5 : Int) (q6 : Int) (q7 : Int) (q8 : Int) (q9 : Int) (hp : Nat) (sg : Nat) (P : Nat → Int) (n : Nat) (hVP : VP P n) : Met l yX4_findFault wsX4_findFault ({ frames := 4, cells := 0, slots := 0, locals := 83 }) (kPc D T [.ref ho] (kW D sz [(ho, .inr (4, [.ref hp, .int (iz (q1)), .int (iz (q2)), .int (iz (q3)), .int (iz (q4)), .int (iz (q5)), .int (iz (q6)), .int (iz (q7)), .int (iz (q8)), .int (iz (q9))])), (hp, .inr (3, [.ref sg, .int (iz (((n : Nat) : Int)))])), (sg, .inl (T 3, 80, .inl (zA P)))])) (va_Qi (fun (r : Int32) (u : Int × Int × Int × Int × Int × Int × Int × Int × Int) => r = iz (pd_fault P n)) (fun (u : Int × Int × Int × Int × Int × Int × Int × Int × Int) (t : State) => va_P D vwCl [(ho, .inr (4, [.ref hp, .int (iz (u.1)), .int (iz (u.2.1)), .int (iz (u.2.2.1)), .int (iz (u.2.2.2.1)), .int (iz (u.2.2.2.2.1)), .int (iz (u.2.2.2.2.2.1)), .int (iz (u.2.2.2.2.2.2.1)), .int (iz (u.2.2.2.2.2.2.2.1)), .int (iz (u.2.2.2.2.2.2.2.2))])), (hp, .inr (3, [.ref sg, .int (iz (((n : Nat) : Int)))])), (sg, .inl (T 3, 80, .inl (zA P)))] t.heap) (va_A [(ho, .inr (4, [.ref hp, .int (iz (q1)), .int (iz (q2)), .int (iz (q3)), .int (iz (q4)), .int (iz (q5)), .int (iz (q6)), .int (iz (q7)), .int (iz (q8)), .int (iz (q9))])), (hp, .inr (3, [.ref sg, .int (iz (((n : Nat) : Int)))])), (sg, .inl (T 3, 80, .inl (zA P)))] sz)) 0 0 (va_A [(ho, .inr (4, [.ref hp, .int (iz (q1)), .int (iz (q2)), .int (iz (q3)), .int (iz (q4)), .int (iz (q5)), .int (iz (q6)), .int (iz (q7)), .int (iz (q8)), .int (iz (q9))])), (hp, .inr (3, [.ref sg, .int (iz (((n : Nat) : Int)))])), (sg, .inl (T 3, 80, .inl (zA P)))] sz) := by
  refine Met.ofW (cc := cX4_findFault) (maxL := 2) (ret := (some .int)) (by decide) rfl ?_
  intro p e s m args below meth c s₁ B hml hv
  obtain ⟨rfl, hK, hsz, hP, hD0⟩ := hv
  have hx := B.exec
  have hb := B.bytes
  have hr := B.returns
  have hts := atoms_spec (ws := wsX4_findFault) B.pre
  have hown : s.vm.findClass RX4 = some m.cls := findClass_of_methodNamed B.named
  have hlocks := B.notSynchronized
  have w0 := hts (.fieldLink RX4 9 "LakePlant$Reader" "at" "I") (List.mem_of_getElem? (i := 1) rfl)
  have w1 : ∀ w ∈ wsX40, w ∈ wsX4_findFault := by decide +kernel
  have w2 := hts (.fieldLink RX4 40 "LakePlant$Reader" "pad" "LLakePlant$Pad;") (List.mem_of_getElem? (i := 2) rfl)
  have w3 : ∀ w ∈ wsX30, w ∈ wsX4_findFault := by decide +kernel
  subst hsz
  have hD := hD0.self (sz := s.heap.size)
  generalize hAe : va_A [(ho, .inr (4, [.ref hp, .int (iz (q1)), .int (iz (q2)), .int (iz (q3)), .int (iz (q4)), .int (iz (q5)), .int (iz (q6)), .int (iz (q7)), .int (iz (q8)), .int (iz (q9))])), (hp, .inr (3, [.ref sg, .int (iz (((n : Nat) : Int)))])), (sg, .inl (T 3, 80, .inl (zA P)))] s.heap.size = A at hD ⊢
  have hA : ∀ q : Nat, s.heap.size ≤ q → A q := fun q h => by rw [← hAe]; exact Or.inr h
  have hS : va_S A s.heap s.heap [] := va_S.rf
  have hP : va_P D vwCl [(ho, .inr (4, [.ref hp, .int (iz (q1)), .int (iz (q2)), .int (iz (q3)), .int (iz (q4)), .int (iz (q5)), .int (iz (q6)), .int (iz (q7)), .int (iz (q8)), .int (iz (q9))])), (hp, .inr (3, [.ref sg, .int (iz (((n : Nat) : Int)))])), (sg, .inl (T 3, 80, .inl (zA P)))] s.heap := hP
  have hl := lv_entry ([.ref ho]) (n := 2) (Nat.le_of_ble_eq_true rfl)
  rw [lg_entry_eq]
  generalize (lg_sl ([.ref ho]) ++ List.replicate (2 - (lg_sl ([.ref ho])).length) Slot.unset).toArray = ls at hl ⊢
  have hl : lv_has ls 2 [(0, .ref ho)] := hl
  have hn80 := hVP.1
  have hst : ∀ f i, pf_go P n (f + 1) i = if po_ok P n i = 0 then (po_end P n i : Int) else if n ≤ po_end P n i then -6 else if pd_s P n (po_end P n i) = 59 then pf_go P n f (po_end P n i + 1) else (po_end P n i : Int) := fun _ _ => rfl
  refine lv_aload_n hx hb dX4_findFault_0 rfl (lv_at hl 0 rfl) ?_
  refine kc_wv (va_runV (As := []) (rest := []) ⟨hx, hb, hml, hown, hts⟩ (c_X4_toTheBegin l D T s.heap.size ho hp q1 q2 q3 q4 q5 q6 q7 q8 q9) (cwV 0 hts gX4_findFault_X4_toTheBegin rfl rfl rfl (by decide +kernel) ⟨Nat.le_of_ble_eq_true rfl, Nat.le_of_ble_eq_true rfl⟩) (kPc.v hK (va_recv hK.1 hP (ci := 4) (q0 := 0) rfl rfl) (kW.cut hP hD [0] rfl (by rfl))) rfl rfl hl.1 rfl (lv_room (Nat.le_of_ble_eq_true rfl)) dX4_findFault_1 ⟨Nat.zero_le _, Nat.zero_le _⟩) hP hD hS hA [0] rfl (fun _ => rfl) (fun u H locs hr1 hP hD hS => ?_)
  have hP : va_P D vwCl [(ho, .inr (4, [.ref hp, .int (iz (0)), .int (iz (q2)), .int (iz (q3)), .int (iz (q4)), .int (iz (q5)), .int (iz (q6)), .int (iz (q7)), .int (iz (q8)), .int (iz (q9))])), (hp, .inr (3, [.ref sg, .int (iz (((n : Nat) : Int)))])), (sg, .inl (T 3, 80, .inl (zA P)))] H := hP
  have hD : va_D A [(ho, .inr (4, [.ref hp, .int (iz (0)), .int (iz (q2)), .int (iz (q3)), .int (iz (q4)), .int (iz (q5)), .int (iz (q6)), .int (iz (q7)), .int (iz (q8)), .int (iz (q9))])), (hp, .inr (3, [.ref sg, .int (iz (((n : Nat) : Int)))])), (sg, .inl (T 3, 80, .inl (zA P)))] := hD
  refine lv_iconst (v := iz (0)) hx hb dX4_findFault_4 (by decide) ?_
  refine lv_istore_n (lv' := [(1, .int (iz (0))), (0, .ref ho)]) hx hb dX4_findFault_5 rfl hl (by decide) rfl (fun ls hl => ?_)
  have hl : lv_has ls 2 [(1, .int (iz (((0 : Nat) : Int)))), (0, .ref ho)] := by rw [← (show (0 : Int) = ((0 : Nat) : Int) from (by first | rfl | omega))]; exact hl
  have hZ : (0 : Int) = ((0 : Nat) : Int) := (by first | rfl | omega)
  have hP : va_P D vwCl [(ho, .inr (4, [.ref hp, .int (iz (((0 : Nat) : Int))), .int (iz (q2)), .int (iz (q3)), .int (iz (q4)), .int (iz (q5)), .int (iz (q6)), .int (iz (q7)), .int (iz (q8)), .int (iz (q9))])), (hp, .inr (3, [.ref sg, .int (iz (((n : Nat) : Int)))])), (sg, .inl (T 3, 80, .inl (zA P)))] H := by rw [← hZ]; exact hP
  have hD : va_D A [(ho, .inr (4, [.ref hp, .int (iz (((0 : Nat) : Int))), .int (iz (q2)), .int (iz (q3)), .int (iz (q4)), .int (iz (q5)), .int (iz (q6)), .int (iz (q7)), .int (iz (q8)), .int (iz (q9))])), (hp, .inr (3, [.ref sg, .int (iz (((n : Nat) : Int)))])), (sg, .inl (T 3, 80, .inl (zA P)))] := by rw [← hZ]; exact hD
  refine kz_loopW10 (pc := 6) (I := fun (k : Nat) (i : Nat) (x1 : Int) (x2 : Int) (x3 : Int) (x4 : Int) (x5 : Int) (x6 : Int) (x7 : Int) (x8 : Int) (H : Heap) (locs : List Loc) (ls : Array Slot) => (2 * k ≤ i) ∧ (i ≤ n) ∧ (pd_fault P n = pf_go P n (80 - k) i) ∧ va_P D vwCl [(ho, .inr (4, [.ref hp, .int (iz (((i : Nat) : Int))), .int (iz (x1)), .int (iz (x2)), .int (iz (x3)), .int (iz (x4)), .int (iz (x5)), .int (iz (x6)), .int (iz (x7)), .int (iz (x8))])), (hp, .inr (3, [.ref sg, .int (iz (((n : Nat) : Int)))])), (sg, .inl (T 3, 80, .inl (zA P)))] H ∧ va_D A [(ho, .inr (4, [.ref hp, .int (iz (((i : Nat) : Int))), .int (iz (x1)), .int (iz (x2)), .int (iz (x3)), .int (iz (x4)), .int (iz (x5)), .int (iz (x6)), .int (iz (x7)), .int (iz (x8))])), (hp, .inr (3, [.ref sg, .int (iz (((n : Nat) : Int)))])), (sg, .inl (T 3, 80, .inl (zA P)))] ∧ va_S A s.heap H locs ∧ lv_has ls 2 [(0, .ref ho), (1, .int (iz (((k : Nat) : Int))))]) (μ := fun (k : Nat) (i : Nat) (x1 : Int) (x2 : Int) (x3 : Int) (x4 : Int) (x5 : Int) (x6 : Int) (x7 : Int) (x8 : Int) => 80 - k) 0 0 q2 q3 q4 q5 q6 q7 q8 q9 ⟨(by omega), (by omega), rfl, hP, hD, hS, lv_sub hl [1, 0] rfl⟩ ?_
  rintro k i x1 x2 x3 x4 x5 x6 x7 x8 H locs ls ⟨hk, hi, hf, hP, hD, hS, hl⟩ ih6
  have hle := po_end_le (P := P) hi
  have hge := po_end_ge (P := P) (n := n) (i := i)
  have h01 := po_ok01 P n i
  refine lv_iload_n hx hb dX4_findFault_6 rfl (lv_at hl 1 rfl) ?_
  refine lv_bipush (v := iz (80)) hx hb dX4_findFault_7 (by decide) ?_
  refine kz_icmp_ge (tgt := 61) hx hb dX4_findFault_9 (by decide) (by omega) (by omega) (fun c9 => False.elim (by omega)) (fun c9 => ?_)
  refine lv_aload_n hx hb dX4_findFault_12 rfl (lv_at hl 0 rfl) ?_
  refine kc_wi (va_runV (As := []) (rest := []) ⟨hx, hb, hml, hown, hts⟩ (c_X4_readOrder l D T H.size ho x1 x2 x3 x4 x5 x6 x7 x8 hp sg P n hVP i (by omega)) (cwV 0 hts gX4_findFault_X4_readOrder rfl rfl rfl (by decide +kernel) ⟨Nat.le_of_ble_eq_true rfl, Nat.le_of_ble_eq_true rfl⟩) (kPc.v hK (va_recv hK.1 hP (ci := 4) (q0 := 0) rfl rfl) (kW.cut hP hD [0, 1, 2] rfl (by rfl))) rfl rfl hl.1 rfl (lv_room (Nat.le_of_ble_eq_true rfl)) dX4_findFault_13 ⟨Nat.zero_le _, Nat.zero_le _⟩) hP hD hS hA [0, 1, 2] rfl (fun _ => rfl) (fun r2 u H locs hr2 hP hD hS => ?_)
  obtain ⟨u3, u4, u5, u6, u7, u8, u9⟩ := u
  have hP : va_P D vwCl [(ho, .inr (4, [.ref hp, .int (iz (((po_end P n i : Nat) : Int))), .int (iz (u3)), .int (iz (pd_s P n i)), .int (iz (u4)), .int (iz (u5)), .int (iz (u6)), .int (iz (u7)), .int (iz (u8)), .int (iz (u9))])), (hp, .inr (3, [.ref sg, .int (iz (((n : Nat) : Int)))])), (sg, .inl (T 3, 80, .inl (zA P)))] H := hP
  have hD : va_D A [(ho, .inr (4, [.ref hp, .int (iz (((po_end P n i : Nat) : Int))), .int (iz (u3)), .int (iz (pd_s P n i)), .int (iz (u4)), .int (iz (u5)), .int (iz (u6)), .int (iz (u7)), .int (iz (u8)), .int (iz (u9))])), (hp, .inr (3, [.ref sg, .int (iz (((n : Nat) : Int)))])), (sg, .inl (T 3, 80, .inl (zA P)))] := hD
  obtain ⟨rfl, hr2⟩ := hr2
  try dsimp only at hr2
  refine kz_if_ne (tgt := 24) hx hb dX4_findFault_16 (by decide) (by omega) (fun c16 => ?_) (fun c16 => ?_)
  · have hz : po_ok P n i ≠ 0 := by omega
    refine lv_aload_n hx hb dX4_findFault_24 rfl (lv_at hl 0 rfl) ?_
    refine va_get (D := D) (ci := 4) (C := RX4) (T := TX4) (N := 10) hx hb hts w1 hown hK.1 hP 0 rfl rfl 1 (by decide) w0 (fun _ h9 => h9) rfl dX4_findFault_25 ?_
    refine lv_aload_n hx hb dX4_findFault_28 rfl (lv_at hl 0 rfl) ?_
    refine va_get (D := D) (ci := 4) (C := RX4) (T := TX4) (N := 10) hx hb hts w1 hown hK.1 hP 0 rfl rfl 0 (by decide) w2 (fun _ h9 => h9) rfl dX4_findFault_29 ?_
    refine va_getN (D := D) (ci := 3) (C := RX3) (T := TX3) (N := 2) hx hb hts w3 hown hK.1 hP 1 rfl rfl 1 (by decide) (kb_RX4_51 hK) (fun _ h9 => h9) rfl dX4_findFault_32 ?_
    refine kz_icmp_lt (tgt := 41) hx hb dX4_findFault_35 (by decide) (by omega) (by omega) (fun c35 => ?_) (fun c35 => ?_)
    · refine lv_aload_n hx hb dX4_findFault_41 rfl (lv_at hl 0 rfl) ?_
      refine lv_bipush (v := iz (59)) hx hb dX4_findFault_42 (by decide) ?_
      refine kc_wi (va_runV (As := [.int (iz (59))]) (rest := []) ⟨hx, hb, hml, hown, hts⟩ (c_X4_readSign l D T H.size ho u3 (pd_s P n i) u4 u5 u6 u7 u8 u9 hp sg P n hVP (po_end P n i) (by omega) 59 (by omega)) (cwV 1 hts gX4_findFault_X4_readSign rfl rfl rfl (by decide +kernel) ⟨Nat.le_of_ble_eq_true rfl, Nat.le_of_ble_eq_true rfl⟩) (kPc.v hK (va_recv hK.1 hP (ci := 4) (q0 := 0) rfl rfl) (kW.cut hP hD [0, 1, 2] rfl (by rfl))) rfl rfl hl.1 rfl (lv_room (Nat.le_of_ble_eq_true rfl)) dX4_findFault_44 ⟨Nat.zero_le _, Nat.zero_le _⟩) hP hD hS hA [0, 1, 2] rfl (fun _ => rfl) (fun r10 u H locs hr10 hP hD hS => ?_)
      have hP : va_P D vwCl [(ho, .inr (4, [.ref hp, .int (iz (((if pd_s P n (po_end P n i) = 59 then (po_end P n i) + 1 else (po_end P n i) : Nat) : Int))), .int (iz (u3)), .int (iz ((pd_s P n i))), .int (iz (u4)), .int (iz (u5)), .int (iz (u6)), .int (iz (u7)), .int (iz (u8)), .int (iz (u9))])), (hp, .inr (3, [.ref sg, .int (iz (((n : Nat) : Int)))])), (sg, .inl (T 3, 80, .inl (zA P)))] H := hP
      have hD : va_D A [(ho, .inr (4, [.ref hp, .int (iz (((if pd_s P n (po_end P n i) = 59 then (po_end P n i) + 1 else (po_end P n i) : Nat) : Int))), .int (iz (u3)), .int (iz ((pd_s P n i))), .int (iz (u4)), .int (iz (u5)), .int (iz (u6)), .int (iz (u7)), .int (iz (u8)), .int (iz (u9))])), (hp, .inr (3, [.ref sg, .int (iz (((n : Nat) : Int)))])), (sg, .inl (T 3, 80, .inl (zA P)))] := hD
      subst hr10
      refine kz_if_ne (tgt := 55) hx hb dX4_findFault_47 (by decide) (by omega) (fun c47 => ?_) (fun c47 => ?_)
      · have hZ : (((if pd_s P n (po_end P n i) = 59 then (po_end P n i) + 1 else (po_end P n i) : Nat) : Int) : Int) = ((po_end P n i + 1 : Nat) : Int) := (by rw [if_pos (by omega)])
        have hP : va_P D vwCl [(ho, .inr (4, [.ref hp, .int (iz (((po_end P n i + 1 : Nat) : Int))), .int (iz (u3)), .int (iz ((pd_s P n i))), .int (iz (u4)), .int (iz (u5)), .int (iz (u6)), .int (iz (u7)), .int (iz (u8)), .int (iz (u9))])), (hp, .inr (3, [.ref sg, .int (iz (((n : Nat) : Int)))])), (sg, .inl (T 3, 80, .inl (zA P)))] H := by rw [← hZ]; exact hP
        have hD : va_D A [(ho, .inr (4, [.ref hp, .int (iz (((po_end P n i + 1 : Nat) : Int))), .int (iz (u3)), .int (iz ((pd_s P n i))), .int (iz (u4)), .int (iz (u5)), .int (iz (u6)), .int (iz (u7)), .int (iz (u8)), .int (iz (u9))])), (hp, .inr (3, [.ref sg, .int (iz (((n : Nat) : Int)))])), (sg, .inl (T 3, 80, .inl (zA P)))] := by rw [← hZ]; exact hD
        refine kz_iinc (b := ((k + 1 : Nat) : Int)) (lv' := [(1, .int (iz (((k + 1 : Nat) : Int)))), (0, .ref ho)]) hx hb dX4_findFault_55 hl (k := 1) rfl (by omega) (by decide) rfl (fun ls hl => ?_)
        refine lv_goto (tgt := 6) hx hb dX4_findFault_58 (by decide) ?_
        exact ih6 (k + 1) (po_end P n i + 1) u3 (pd_s P n i) u4 u5 u6 u7 u8 u9 _ _ _ ⟨(by omega), (by omega), (by rw [hf, show 80 - k = 80 - (k + 1) + 1 by omega, hst, if_neg (by omega), if_neg (by omega), if_pos (by omega)]), hP, hD, hS, lv_sub hl [1, 0] rfl⟩ (by omega)
      · have hZ : (((if pd_s P n (po_end P n i) = 59 then (po_end P n i) + 1 else (po_end P n i) : Nat) : Int) : Int) = ((po_end P n i : Nat) : Int) := (by rw [if_neg (by omega)])
        have hP : va_P D vwCl [(ho, .inr (4, [.ref hp, .int (iz (((po_end P n i : Nat) : Int))), .int (iz (u3)), .int (iz ((pd_s P n i))), .int (iz (u4)), .int (iz (u5)), .int (iz (u6)), .int (iz (u7)), .int (iz (u8)), .int (iz (u9))])), (hp, .inr (3, [.ref sg, .int (iz (((n : Nat) : Int)))])), (sg, .inl (T 3, 80, .inl (zA P)))] H := by rw [← hZ]; exact hP
        have hD : va_D A [(ho, .inr (4, [.ref hp, .int (iz (((po_end P n i : Nat) : Int))), .int (iz (u3)), .int (iz ((pd_s P n i))), .int (iz (u4)), .int (iz (u5)), .int (iz (u6)), .int (iz (u7)), .int (iz (u8)), .int (iz (u9))])), (hp, .inr (3, [.ref sg, .int (iz (((n : Nat) : Int)))])), (sg, .inl (T 3, 80, .inl (zA P)))] := by rw [← hZ]; exact hD
        refine lv_aload_n hx hb dX4_findFault_50 rfl (lv_at hl 0 rfl) ?_
        refine va_get (D := D) (ci := 4) (C := RX4) (T := TX4) (N := 10) hx hb hts w1 hown hK.1 hP 0 rfl rfl 1 (by decide) w0 (fun _ h9 => h9) rfl dX4_findFault_51 ?_
        exact W.iret hx hb hr (fun t ht hW => ⟨⟨_, (((po_end P n i : Nat) : Int), u3, (pd_s P n i), u4, u5, u6, u7, u8, u9), rfl, (congrArg iz (by rw [hf, show 80 - k = 80 - (k + 1) + 1 by omega, hst, if_neg hz, if_neg (by omega), if_neg (by omega)])), by show va_P _ _ _ t.heap; rw [ht]; exact hP⟩, hS.F ht⟩) hS.2.2 dX4_findFault_54
    · refine lv_bipush (v := iz (-6)) hx hb dX4_findFault_38 (by decide) ?_
      have hZ : (pd_s P n i : Int) = (pd_s P n i) := (by first | rfl | omega)
      have hP : va_P D vwCl [(ho, .inr (4, [.ref hp, .int (iz (((po_end P n i : Nat) : Int))), .int (iz (u3)), .int (iz ((pd_s P n i))), .int (iz (u4)), .int (iz (u5)), .int (iz (u6)), .int (iz (u7)), .int (iz (u8)), .int (iz (u9))])), (hp, .inr (3, [.ref sg, .int (iz (((n : Nat) : Int)))])), (sg, .inl (T 3, 80, .inl (zA P)))] H := by rw [← hZ]; exact hP
      have hD : va_D A [(ho, .inr (4, [.ref hp, .int (iz (((po_end P n i : Nat) : Int))), .int (iz (u3)), .int (iz ((pd_s P n i))), .int (iz (u4)), .int (iz (u5)), .int (iz (u6)), .int (iz (u7)), .int (iz (u8)), .int (iz (u9))])), (hp, .inr (3, [.ref sg, .int (iz (((n : Nat) : Int)))])), (sg, .inl (T 3, 80, .inl (zA P)))] := by rw [← hZ]; exact hD
      exact W.iret hx hb hr (fun t ht hW => ⟨⟨_, (((po_end P n i : Nat) : Int), u3, pd_s P n i, u4, u5, u6, u7, u8, u9), rfl, (congrArg iz (by rw [hf, show 80 - k = 80 - (k + 1) + 1 by omega, hst, if_neg hz, if_pos (by omega)])), by show va_P _ _ _ t.heap; rw [ht]; exact hP⟩, hS.F ht⟩) hS.2.2 dX4_findFault_40
  · have hz : po_ok P n i = 0 := by omega
    refine lv_aload_n hx hb dX4_findFault_19 rfl (lv_at hl 0 rfl) ?_
    refine va_get (D := D) (ci := 4) (C := RX4) (T := TX4) (N := 10) hx hb hts w1 hown hK.1 hP 0 rfl rfl 1 (by decide) w0 (fun _ h9 => h9) rfl dX4_findFault_20 ?_
    have hZ : (pd_s P n i : Int) = (pd_s P n i) := (by first | rfl | omega)
    have hP : va_P D vwCl [(ho, .inr (4, [.ref hp, .int (iz (((po_end P n i : Nat) : Int))), .int (iz (u3)), .int (iz ((pd_s P n i))), .int (iz (u4)), .int (iz (u5)), .int (iz (u6)), .int (iz (u7)), .int (iz (u8)), .int (iz (u9))])), (hp, .inr (3, [.ref sg, .int (iz (((n : Nat) : Int)))])), (sg, .inl (T 3, 80, .inl (zA P)))] H := by rw [← hZ]; exact hP
    have hD : va_D A [(ho, .inr (4, [.ref hp, .int (iz (((po_end P n i : Nat) : Int))), .int (iz (u3)), .int (iz ((pd_s P n i))), .int (iz (u4)), .int (iz (u5)), .int (iz (u6)), .int (iz (u7)), .int (iz (u8)), .int (iz (u9))])), (hp, .inr (3, [.ref sg, .int (iz (((n : Nat) : Int)))])), (sg, .inl (T 3, 80, .inl (zA P)))] := by rw [← hZ]; exact hD
    exact W.iret hx hb hr (fun t ht hW => ⟨⟨_, (((po_end P n i : Nat) : Int), u3, pd_s P n i, u4, u5, u6, u7, u8, u9), rfl, (congrArg iz (by rw [hf, show 80 - k = 80 - (k + 1) + 1 by omega, hst, if_pos hz])), by show va_P _ _ _ t.heap; rw [ht]; exact hP⟩, hS.F ht⟩) hS.2.2 dX4_findFault_23
