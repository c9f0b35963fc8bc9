set_option maxHeartbeats 4000000 in
set_option maxRecDepth 100000 in
theorem c_X7_byteOf (l : Launch) (D : va_G) (T : Nat → ClassId) (w : Nat) (hw : w < 18446744073709551616) (kk : Nat) (hk8 : kk < 8) : Met l yX7_byteOf wsX7_byteOf ({ frames := 0, cells := 0, slots := 0, locals := 0 }) (kPc D T [.long (lN w), .int (iz (((kk : Nat) : Int)))] (va_P D vwCl [])) (vp_Si (fun r : Int32 => r = iz (((w / 256 ^ kk % 256 : Nat) : Int)))) 0 0 (fun _ => False) := by
  refine Met.ofW (cc := cX7_byteOf) (maxL := 3) (ret := (some .int)) (by decide) rfl ?_
  intro p e s m args below meth c s₁ B hml hv
  obtain ⟨rfl, hK, hP⟩ := hv
  have hx := B.exec
  have hb := B.bytes
  have hr := B.returns
  have hts := atoms_spec (ws := wsX7_byteOf) B.pre
  have hown : s.vm.findClass RX7 = some m.cls := findClass_of_methodNamed B.named
  have hlocks := B.notSynchronized
  have w0 := hts (.constantLong RX7 155 (255)) (List.mem_of_getElem? (i := 1) rfl)
  have hP : va_P D vwCl [] s.heap := hP
  have hl := lv_entry ([.long (lN w), .int (iz (((kk : Nat) : Int)))]) (n := 3) (Nat.le_of_ble_eq_true rfl)
  rw [lg_entry_eq]
  generalize (lg_sl ([.long (lN w), .int (iz (((kk : Nat) : Int)))]) ++ List.replicate (3 - (lg_sl ([.long (lN w), .int (iz (((kk : Nat) : Int)))])).length) Slot.unset).toArray = ls at hl ⊢
  have hl : lv_has ls 3 [(0, .long (lN w)), (2, .int (iz (((kk : Nat) : Int))))] := hl
  refine lv_lload_n hx hb dX7_byteOf_0 rfl (lv_at hl 0 rfl) ?_
  refine lv_bipush (v := iz (8)) hx hb dX7_byteOf_1 (by decide) ?_
  refine lv_iload_n hx hb dX7_byteOf_3 rfl (lv_at hl 1 rfl) ?_
  refine kz_mul hx hb dX7_byteOf_4 ?_
  refine kz_lshr (i := kk) hx hb dX7_byteOf_5 ?_
  refine lv_ldc2 (v := lN 255) hx hb hown w0 dX7_byteOf_6 ?_
  refine kz_landS hx hb hw hk8 dX7_byteOf_9 ?_
  refine lv_l2i hx hb dX7_byteOf_10 (bt_l2i (w / 256 ^ kk % 256)) ?_
  exact W.iret hx hb hr (fun t ht _ => ⟨_, rfl, rfl, ht⟩) (fun _ h => absurd h List.not_mem_nil) dX7_byteOf_11
set_option maxHeartbeats 4000000 in
set_option maxRecDepth 100000 in
theorem c_X7_toldBy (l : Launch) (D : va_G) (T : Nat → ClassId) (w : Nat) (hw : w < 18446744073709551616) : Met l yX7_toldBy wsX7_toldBy ({ frames := 1, cells := 0, slots := 0, locals := 22 }) (kPc D T [.long (lN w)] (va_P D vwCl [])) (vp_Si (fun r : Int32 => r = iz (ap_t w))) 0 0 (fun _ => False) := by
  refine Met.ofW (cc := cX7_toldBy) (maxL := 4) (ret := (some .int)) (by decide) rfl ?_
  intro p e s m args below meth c s₁ B hml hv
  obtain ⟨rfl, hK, hP⟩ := hv
  have hx := B.exec
  have hb := B.bytes
  have hr := B.returns
  have hts := atoms_spec (ws := wsX7_toldBy) B.pre
  have hown : s.vm.findClass RX7 = some m.cls := findClass_of_methodNamed B.named
  have hlocks := B.notSynchronized
  have hP : va_P D vwCl [] s.heap := hP
  have hl := lv_entry ([.long (lN w)]) (n := 4) (Nat.le_of_ble_eq_true rfl)
  rw [lg_entry_eq]
  generalize (lg_sl ([.long (lN w)]) ++ List.replicate (4 - (lg_sl ([.long (lN w)])).length) Slot.unset).toArray = ls at hl ⊢
  have hl : lv_has ls 4 [(0, .long (lN w))] := hl
  have hN8 := ap_Nle 8 w
  refine lv_iconst (v := iz (0)) hx hb dX7_toldBy_0 (by decide) ?_
  refine lv_istore_n (lv' := [(2, .int (iz (0))), (0, .long (lN w))]) hx hb dX7_toldBy_1 rfl hl (by decide) rfl (fun ls hl => ?_)
  have hl : lv_has ls 4 [(2, .int (iz (((0 : Nat) : Int)))), (0, .long (lN w))] := by rw [← (show (0 : Int) = ((0 : Nat) : Int) from (by first | rfl | omega))]; exact hl
  refine kz_loopR1 (pc := 2) (I := fun (k : Nat) (ls : Array Slot) => (k ≤ 8) ∧ (ap_N 8 w = ap_N (8 - k) (w / 256 ^ k) + k) ∧ (ap_G 8 w = ap_G (8 - k) (w / 256 ^ k)) ∧ lv_has ls 4 [(0, .long (lN w)), (2, .int (iz (((k : Nat) : Int))))]) (μ := fun (k : Nat) => 8 - k) 0 ⟨(by omega), (by rw [Nat.pow_zero, Nat.div_one]; rfl), (by rw [Nat.pow_zero, Nat.div_one]), lv_sub hl [1, 0] rfl⟩ ?_
  rintro k ls ⟨hk8, hN, hG, hl⟩ ih2
  refine lv_iload_n hx hb dX7_toldBy_2 rfl (lv_at hl 1 rfl) ?_
  refine lv_bipush (v := iz (8)) hx hb dX7_toldBy_3 (by decide) ?_
  refine kz_icmp_ge (tgt := 40) hx hb dX7_toldBy_5 (by decide) (by omega) (by omega) (fun c5 => ?_) (fun c5 => ?_)
  · have hnn : k = ap_N 8 w := by have := ap_Nle (8 - k) (w / 256 ^ k); omega
    have hg : ap_G 8 w = true := by rw [hG, show 8 - k = 0 by omega]; rfl
    subst hnn
    have hl : lv_has ls 4 [(0, .long (lN w)), (2, .int (iz (((ap_N 8 w : Nat) : Int))))] := hl
    refine lv_iload_n hx hb dX7_toldBy_40 rfl (lv_at hl 1 rfl) ?_
    refine lv_istore_n (lv' := [(3, .int (iz (((ap_N 8 w : Nat) : Int)))), (0, .long (lN w)), (2, .int (iz (((ap_N 8 w : Nat) : Int))))]) hx hb dX7_toldBy_41 rfl hl (by decide) rfl (fun ls hl => ?_)
    refine kz_loopR1 (pc := 42) (I := fun (q : Nat) (ls : Array Slot) => (ap_N 8 w ≤ q ∧ q ≤ 8) ∧ (w / 256 ^ ap_N 8 w = 0 ↔ w / 256 ^ q = 0) ∧ lv_has ls 4 [(0, .long (lN w)), (2, .int (iz (((ap_N 8 w : Nat) : Int)))), (3, .int (iz (((q : Nat) : Int))))]) (μ := fun (q : Nat) => 8 - q) (ap_N 8 w) ⟨(by omega), Iff.rfl, lv_sub hl [1, 2, 0] rfl⟩ ?_
    rintro q ls ⟨hq, hz, hl⟩ ih42
    refine lv_iload_n hx hb dX7_toldBy_42 rfl (lv_at hl 2 rfl) ?_
    refine lv_bipush (v := iz (8)) hx hb dX7_toldBy_43 (by decide) ?_
    refine kz_icmp_ge (tgt := 65) hx hb dX7_toldBy_45 (by decide) (by omega) (by omega) (fun c45 => ?_) (fun c45 => ?_)
    · have hq8 : q = 8 := by omega
      have hw0 : w / 256 ^ ap_N 8 w = 0 := by rw [hz, hq8]; exact bt_dv8 hw
      refine lv_iload_n hx hb dX7_toldBy_65 rfl (lv_at hl 1 rfl) ?_
      refine kz_if_ne (tgt := 74) hx hb dX7_toldBy_66 (by decide) (by omega) (fun c66 => ?_) (fun c66 => ?_)
      · refine lv_iload_n hx hb dX7_toldBy_74 rfl (lv_at hl 1 rfl) ?_
        exact W.iret hx hb hr (fun t ht _ => ⟨_, rfl, (congrArg iz (ap_to hg (by omega) hw0).symm), ht⟩) (fun _ h => absurd h List.not_mem_nil) dX7_toldBy_75
      · refine lv_bipush (v := iz (-2)) hx hb dX7_toldBy_69 (by decide) ?_
        refine lv_goto (tgt := 75) hx hb dX7_toldBy_71 (by decide) ?_
        exact W.iret hx hb hr (fun t ht _ => ⟨_, rfl, (congrArg iz (ap_tb (Or.inr (Or.inl (by omega)))).symm), ht⟩) (fun _ h => absurd h List.not_mem_nil) dX7_toldBy_75
    · refine lv_lload_n hx hb dX7_toldBy_48 rfl (lv_at hl 0 rfl) ?_
      refine lv_iload_n hx hb dX7_toldBy_49 rfl (lv_at hl 2 rfl) ?_
      refine kc_i (va_runS (As := [.long (lN w), .int (iz (((q : Nat) : Int)))]) (rest := []) ⟨hx, hb, hml, hown, hts⟩ (c_X7_byteOf l D T w hw q (by omega)) (va_cwS 2 hts gX7_toldBy_X7_byteOf rfl rfl rfl (by decide +kernel) ⟨Nat.le_of_ble_eq_true rfl, Nat.le_of_ble_eq_true rfl⟩) (kPc.s hK (kcut hP [] rfl)) rfl rfl hl.1 rfl (lv_room (Nat.le_of_ble_eq_true rfl)) dX7_toldBy_50 ⟨Nat.zero_le _, Nat.zero_le _⟩) (fun r1 hr1 => ?_)
      subst hr1
      refine kz_if_eq (tgt := 59) hx hb dX7_toldBy_53 (by decide) (by omega) (fun c53 => ?_) (fun c53 => ?_)
      · refine kz_iinc (b := ((q + 1 : Nat) : Int)) (lv' := [(3, .int (iz (((q + 1 : Nat) : Int)))), (0, .long (lN w)), (2, .int (iz (((ap_N 8 w : Nat) : Int))))]) hx hb dX7_toldBy_59 hl (k := 2) rfl (by omega) (by decide) rfl (fun ls hl => ?_)
        refine lv_goto (tgt := 42) hx hb dX7_toldBy_62 (by decide) ?_
        exact ih42 (q + 1) _ ⟨(by omega), (by rw [hz, bt_dvs]; omega), lv_sub hl [1, 2, 0] rfl⟩ (by omega)
      · have hbad : ap_t w = -2 := ap_tb (Or.inr (Or.inr (by rw [Ne, hz]; omega)))
        refine lv_bipush (v := iz (-2)) hx hb dX7_toldBy_56 (by decide) ?_
        exact W.iret hx hb hr (fun t ht _ => ⟨_, rfl, (congrArg iz hbad.symm), ht⟩) (fun _ h => absurd h List.not_mem_nil) dX7_toldBy_58
  · refine lv_lload_n hx hb dX7_toldBy_8 rfl (lv_at hl 0 rfl) ?_
    refine lv_iload_n hx hb dX7_toldBy_9 rfl (lv_at hl 1 rfl) ?_
    refine kc_i (va_runS (As := [.long (lN w), .int (iz (((k : Nat) : Int)))]) (rest := []) ⟨hx, hb, hml, hown, hts⟩ (c_X7_byteOf l D T w hw k (by omega)) (va_cwS 2 hts gX7_toldBy_X7_byteOf rfl rfl rfl (by decide +kernel) ⟨Nat.le_of_ble_eq_true rfl, Nat.le_of_ble_eq_true rfl⟩) (kPc.s hK (kcut hP [] rfl)) rfl rfl hl.1 rfl (lv_room (Nat.le_of_ble_eq_true rfl)) dX7_toldBy_10 ⟨Nat.zero_le _, Nat.zero_le _⟩) (fun r2 hr2 => ?_)
    subst hr2
    refine kz_if_eq (tgt := 40) hx hb dX7_toldBy_13 (by decide) (by omega) (fun c13 => ?_) (fun c13 => ?_)
    · have hnn : k = ap_N 8 w := by have := ap_Nz (k := 8 - k) (v := w / 256 ^ k) (by omega); omega
      have hg : ap_G 8 w = true := by rw [hG, ap_Gz (by omega)]
      subst hnn
      have hl : lv_has ls 4 [(0, .long (lN w)), (2, .int (iz (((ap_N 8 w : Nat) : Int))))] := hl
      refine lv_iload_n hx hb dX7_toldBy_40 rfl (lv_at hl 1 rfl) ?_
      refine lv_istore_n (lv' := [(3, .int (iz (((ap_N 8 w : Nat) : Int)))), (0, .long (lN w)), (2, .int (iz (((ap_N 8 w : Nat) : Int))))]) hx hb dX7_toldBy_41 rfl hl (by decide) rfl (fun ls hl => ?_)
      refine kz_loopR1 (pc := 42) (I := fun (q : Nat) (ls : Array Slot) => (ap_N 8 w ≤ q ∧ q ≤ 8) ∧ (w / 256 ^ ap_N 8 w = 0 ↔ w / 256 ^ q = 0) ∧ lv_has ls 4 [(0, .long (lN w)), (2, .int (iz (((ap_N 8 w : Nat) : Int)))), (3, .int (iz (((q : Nat) : Int))))]) (μ := fun (q : Nat) => 8 - q) (ap_N 8 w) ⟨(by omega), Iff.rfl, lv_sub hl [1, 2, 0] rfl⟩ ?_
      rintro q ls ⟨hq, hz, hl⟩ ih42
      refine lv_iload_n hx hb dX7_toldBy_42 rfl (lv_at hl 2 rfl) ?_
      refine lv_bipush (v := iz (8)) hx hb dX7_toldBy_43 (by decide) ?_
      refine kz_icmp_ge (tgt := 65) hx hb dX7_toldBy_45 (by decide) (by omega) (by omega) (fun c45 => ?_) (fun c45 => ?_)
      · have hq8 : q = 8 := by omega
        have hw0 : w / 256 ^ ap_N 8 w = 0 := by rw [hz, hq8]; exact bt_dv8 hw
        refine lv_iload_n hx hb dX7_toldBy_65 rfl (lv_at hl 1 rfl) ?_
        refine kz_if_ne (tgt := 74) hx hb dX7_toldBy_66 (by decide) (by omega) (fun c66 => ?_) (fun c66 => ?_)
        · refine lv_iload_n hx hb dX7_toldBy_74 rfl (lv_at hl 1 rfl) ?_
          exact W.iret hx hb hr (fun t ht _ => ⟨_, rfl, (congrArg iz (ap_to hg (by omega) hw0).symm), ht⟩) (fun _ h => absurd h List.not_mem_nil) dX7_toldBy_75
        · refine lv_bipush (v := iz (-2)) hx hb dX7_toldBy_69 (by decide) ?_
          refine lv_goto (tgt := 75) hx hb dX7_toldBy_71 (by decide) ?_
          exact W.iret hx hb hr (fun t ht _ => ⟨_, rfl, (congrArg iz (ap_tb (Or.inr (Or.inl (by omega)))).symm), ht⟩) (fun _ h => absurd h List.not_mem_nil) dX7_toldBy_75
      · refine lv_lload_n hx hb dX7_toldBy_48 rfl (lv_at hl 0 rfl) ?_
        refine lv_iload_n hx hb dX7_toldBy_49 rfl (lv_at hl 2 rfl) ?_
        refine kc_i (va_runS (As := [.long (lN w), .int (iz (((q : Nat) : Int)))]) (rest := []) ⟨hx, hb, hml, hown, hts⟩ (c_X7_byteOf l D T w hw q (by omega)) (va_cwS 2 hts gX7_toldBy_X7_byteOf rfl rfl rfl (by decide +kernel) ⟨Nat.le_of_ble_eq_true rfl, Nat.le_of_ble_eq_true rfl⟩) (kPc.s hK (kcut hP [] rfl)) rfl rfl hl.1 rfl (lv_room (Nat.le_of_ble_eq_true rfl)) dX7_toldBy_50 ⟨Nat.zero_le _, Nat.zero_le _⟩) (fun r3 hr3 => ?_)
        subst hr3
        refine kz_if_eq (tgt := 59) hx hb dX7_toldBy_53 (by decide) (by omega) (fun c53 => ?_) (fun c53 => ?_)
        · refine kz_iinc (b := ((q + 1 : Nat) : Int)) (lv' := [(3, .int (iz (((q + 1 : Nat) : Int)))), (0, .long (lN w)), (2, .int (iz (((ap_N 8 w : Nat) : Int))))]) hx hb dX7_toldBy_59 hl (k := 2) rfl (by omega) (by decide) rfl (fun ls hl => ?_)
          refine lv_goto (tgt := 42) hx hb dX7_toldBy_62 (by decide) ?_
          exact ih42 (q + 1) _ ⟨(by omega), (by rw [hz, bt_dvs]; omega), lv_sub hl [1, 2, 0] rfl⟩ (by omega)
        · have hbad : ap_t w = -2 := ap_tb (Or.inr (Or.inr (by rw [Ne, hz]; omega)))
          refine lv_bipush (v := iz (-2)) hx hb dX7_toldBy_56 (by decide) ?_
          exact W.iret hx hb hr (fun t ht _ => ⟨_, rfl, (congrArg iz hbad.symm), ht⟩) (fun _ h => absurd h List.not_mem_nil) dX7_toldBy_58
    · refine lv_lload_n hx hb dX7_toldBy_16 rfl (lv_at hl 0 rfl) ?_
      refine lv_iload_n hx hb dX7_toldBy_17 rfl (lv_at hl 1 rfl) ?_
      refine kc_i (va_runS (As := [.long (lN w), .int (iz (((k : Nat) : Int)))]) (rest := []) ⟨hx, hb, hml, hown, hts⟩ (c_X7_byteOf l D T w hw k (by omega)) (va_cwS 2 hts gX7_toldBy_X7_byteOf rfl rfl rfl (by decide +kernel) ⟨Nat.le_of_ble_eq_true rfl, Nat.le_of_ble_eq_true rfl⟩) (kPc.s hK (kcut hP [] rfl)) rfl rfl hl.1 rfl (lv_room (Nat.le_of_ble_eq_true rfl)) dX7_toldBy_18 ⟨Nat.zero_le _, Nat.zero_le _⟩) (fun r4 hr4 => ?_)
      subst hr4
      refine lv_bipush (v := iz (33)) hx hb dX7_toldBy_21 (by decide) ?_
      refine lv_bipush (v := iz (126)) hx hb dX7_toldBy_23 (by decide) ?_
      refine kc_i (va_runS (As := [.int (iz (((w / 256 ^ k % 256 : Nat) : Int))), .int (iz (33)), .int (iz (126))]) (rest := []) ⟨hx, hb, hml, hown, hts⟩ (c_X7_in l D T ((w / 256 ^ k % 256 : Nat) : Int) 33 126 (by omega) (by omega) (by omega)) (va_cwS 3 hts gX7_toldBy_X7_in rfl rfl rfl (by decide +kernel) ⟨Nat.le_of_ble_eq_true rfl, Nat.le_of_ble_eq_true rfl⟩) (kPc.s hK (kcut hP [] rfl)) rfl rfl hl.1 rfl (lv_room (Nat.le_of_ble_eq_true rfl)) dX7_toldBy_25 ⟨Nat.zero_le _, Nat.zero_le _⟩) (fun r5 hr5 => ?_)
      subst hr5
      refine kz_if_ne (tgt := 34) hx hb dX7_toldBy_28 (by decide) (by omega) (fun c28 => ?_) (fun c28 => ?_)
      · have hgd : 33 ≤ w / 256 ^ k % 256 ∧ w / 256 ^ k % 256 ≤ 126 := by split at c28 <;> omega
        refine kz_iinc (b := ((k + 1 : Nat) : Int)) (lv' := [(2, .int (iz (((k + 1 : Nat) : Int)))), (0, .long (lN w))]) hx hb dX7_toldBy_34 hl (k := 1) rfl (by omega) (by decide) rfl (fun ls hl => ?_)
        refine lv_goto (tgt := 2) hx hb dX7_toldBy_37 (by decide) ?_
        exact ih2 (k + 1) _ ⟨(by omega), (by rw [hN, bt_dvs, show 8 - k = (8 - (k + 1)) + 1 by omega, ap_Ns (by omega)]; omega), (by rw [hG, bt_dvs, show 8 - k = (8 - (k + 1)) + 1 by omega, ap_Gs (by omega) (by omega)]), lv_sub hl [1, 0] rfl⟩ (by omega)
      · have hbad : ap_t w = -2 := ap_tb (Or.inl (by rw [hG, show 8 - k = (8 - (k + 1)) + 1 by omega]; exact ap_Gb (by omega) (by split at c28 <;> omega)))
        refine lv_bipush (v := iz (-2)) hx hb dX7_toldBy_31 (by decide) ?_
        exact W.iret hx hb hr (fun t ht _ => ⟨_, rfl, (congrArg iz hbad.symm), ht⟩) (fun _ h => absurd h List.not_mem_nil) dX7_toldBy_33
set_option maxHeartbeats 4000000 in
set_option maxRecDepth 100000 in
theorem c_X7_put (l : Launch) (D : va_G) (T : Nat → ClassId) (sz : Nat) (mm : Nat) (nw : Nat) (pa : Nat) (kp : Int) (zl : Nat) (hd : Nat) (pd : Nat) (at0 : Int) (os : Nat) (od : Int) (dn : Int) (pu : Int) (lo2 : Int) (sp2 : Int) (lv2 : Int) (wa : Int) (mt : Nat) (cn : Nat) (P : Nat → Int) (n : Nat) (hVP : VP P n) (w : Nat) (hw : w < 18446744073709551616) : Met l yX7_put wsX7_put ({ frames := 2, cells := 0, slots := 0, locals := 45 }) (kPc D T [.ref mm, .long (lN w)] (kW D sz [(mm, .inr (7, [.ref nw, .ref pa, .int (iz (kp)), .ref zl, .ref hd, .ref pd, .int (iz (((n : Nat) : Int))), .int (iz (at0)), .ref os, .int (iz (od)), .int (iz (dn)), .int (iz (pu)), .int (iz (lo2)), .int (iz (sp2)), .int (iz (lv2)), .int (iz (wa)), .ref mt, .ref cn])), (pd, .inl (T 0, 80, .inl (zA P)))])) (va_Qi (fun (r : Int32) (u : Unit) => r = iz (ap_r w n)) (fun (u : Unit) (t : State) => va_P D vwCl [(mm, .inr (7, [.ref nw, .ref pa, .int (iz (kp)), .ref zl, .ref hd, .ref pd, .int (iz (((apL w n : Nat) : Int))), .int (iz (at0)), .ref os, .int (iz (od)), .int (iz (dn)), .int (iz (pu)), .int (iz (lo2)), .int (iz (sp2)), .int (iz (lv2)), .int (iz (wa)), .ref mt, .ref cn])), (pd, .inl (T 0, 80, .inl (zA (apS w P n))))] t.heap) (va_A [(mm, .inr (7, [.ref nw, .ref pa, .int (iz (kp)), .ref zl, .ref hd, .ref pd, .int (iz (((n : Nat) : Int))), .int (iz (at0)), .ref os, .int (iz (od)), .int (iz (dn)), .int (iz (pu)), .int (iz (lo2)), .int (iz (sp2)), .int (iz (lv2)), .int (iz (wa)), .ref mt, .ref cn])), (pd, .inl (T 0, 80, .inl (zA P)))] sz)) 0 0 (va_A [(mm, .inr (7, [.ref nw, .ref pa, .int (iz (kp)), .ref zl, .ref hd, .ref pd, .int (iz (((n : Nat) : Int))), .int (iz (at0)), .ref os, .int (iz (od)), .int (iz (dn)), .int (iz (pu)), .int (iz (lo2)), .int (iz (sp2)), .int (iz (lv2)), .int (iz (wa)), .ref mt, .ref cn])), (pd, .inl (T 0, 80, .inl (zA P)))] sz) := by
  refine Met.ofW (cc := cX7_put) (maxL := 5) (ret := (some .int)) (by decide) rfl ?_
  intro p e s m args below meth c s₁ B hml hv
  obtain ⟨rfl, hK, hsz, hP, hD0⟩ := hv
  have hx := B.exec
  have hb := B.bytes
  have hr := B.returns
  have hts := atoms_spec (ws := wsX7_put) B.pre
  have hown : s.vm.findClass RX7 = some m.cls := findClass_of_methodNamed B.named
  have hlocks := B.notSynchronized
  have w0 := hts (.fieldLink RX7 152 "LakePlantModel" "padded" "I") (List.mem_of_getElem? (i := 1) rfl)
  have w1 : ∀ w ∈ wsX70, w ∈ wsX7_put := by decide +kernel
  have w2 := hts (.fieldLink RX7 23 "LakePlantModel" "pad" "[I") (List.mem_of_getElem? (i := 2) rfl)
  subst hsz
  have hD := hD0.self (sz := s.heap.size)
  generalize hAe : va_A [(mm, .inr (7, [.ref nw, .ref pa, .int (iz (kp)), .ref zl, .ref hd, .ref pd, .int (iz (((n : Nat) : Int))), .int (iz (at0)), .ref os, .int (iz (od)), .int (iz (dn)), .int (iz (pu)), .int (iz (lo2)), .int (iz (sp2)), .int (iz (lv2)), .int (iz (wa)), .ref mt, .ref cn])), (pd, .inl (T 0, 80, .inl (zA P)))] s.heap.size = A at hD ⊢
  have hA : ∀ q : Nat, s.heap.size ≤ q → A q := fun q h => by rw [← hAe]; exact Or.inr h
  have hS : va_S A s.heap s.heap [] := va_S.rf
  have hP : va_P D vwCl [(mm, .inr (7, [.ref nw, .ref pa, .int (iz (kp)), .ref zl, .ref hd, .ref pd, .int (iz (((n : Nat) : Int))), .int (iz (at0)), .ref os, .int (iz (od)), .int (iz (dn)), .int (iz (pu)), .int (iz (lo2)), .int (iz (sp2)), .int (iz (lv2)), .int (iz (wa)), .ref mt, .ref cn])), (pd, .inl (T 0, 80, .inl (zA P)))] s.heap := hP
  have hl := lv_entry ([.ref mm, .long (lN w)]) (n := 5) (Nat.le_of_ble_eq_true rfl)
  rw [lg_entry_eq]
  generalize (lg_sl ([.ref mm, .long (lN w)]) ++ List.replicate (5 - (lg_sl ([.ref mm, .long (lN w)])).length) Slot.unset).toArray = ls at hl ⊢
  have hl : lv_has ls 5 [(0, .ref mm), (1, .long (lN w))] := hl
  have hn80 := hVP.1
  have hN8 := ap_Nle 8 w
  have hat : ap_t w = -2 ∨ (0 < ap_N 8 w ∧ ap_t w = (ap_N 8 w : Int)) := by unfold ap_t; split; (rename_i q; exact Or.inr ⟨q.2.1, rfl⟩); exact Or.inl rfl
  refine lv_lload_n hx hb dX7_put_0 rfl (lv_at hl 1 rfl) ?_
  refine kc_i (va_runS (As := [.long (lN w)]) (rest := []) ⟨hx, hb, hml, hown, hts⟩ (c_X7_toldBy l D T w hw) (va_cwS 1 hts gX7_put_X7_toldBy rfl rfl rfl (by decide +kernel) ⟨Nat.le_of_ble_eq_true rfl, Nat.le_of_ble_eq_true rfl⟩) (kPc.s hK (kcut hP [] rfl)) rfl rfl hl.1 rfl (lv_room (Nat.le_of_ble_eq_true rfl)) dX7_put_1 ⟨Nat.zero_le _, Nat.zero_le _⟩) (fun r1 hr1 => ?_)
  subst hr1
  refine lv_istore_n (lv' := [(3, .int (iz (ap_t w))), (0, .ref mm), (1, .long (lN w))]) hx hb dX7_put_4 rfl hl (by decide) rfl (fun ls hl => ?_)
  refine lv_iload_n hx hb dX7_put_5 rfl (lv_at hl 0 rfl) ?_
  refine kz_if_ge (tgt := 11) hx hb dX7_put_6 (by decide) (by omega) (fun c6 => ?_) (fun c6 => ?_)
  · have ht2 : ap_t w = (ap_N 8 w : Int) := by omega
    refine lv_aload_n hx hb dX7_put_11 rfl (lv_at hl 1 rfl) ?_
    refine va_get (D := D) (ci := 7) (C := RX7) (T := TX7) (N := 18) hx hb hts w1 hown hK.1 hP 0 rfl rfl 6 (by decide) w0 (fun _ h9 => h9) rfl dX7_put_12 ?_
    refine lv_iload_n hx hb dX7_put_15 rfl (lv_at hl 0 rfl) ?_
    refine kz_add hx hb dX7_put_16 ?_
    refine lv_bipush (v := iz (80)) hx hb dX7_put_17 (by decide) ?_
    refine kz_icmp_le (tgt := 25) hx hb dX7_put_19 (by decide) (by omega) (by omega) (fun c19 => ?_) (fun c19 => ?_)
    · have hyy : ap_y w n := by unfold ap_y; omega
      refine lv_iload_n hx hb dX7_put_25 rfl (lv_at hl 0 rfl) ?_
      refine lv_iconst (v := iz (1)) hx hb dX7_put_26 (by decide) ?_
      refine kz_sub hx hb dX7_put_27 ?_
      refine lv_istore (lv' := [(4, .int (iz ((ap_t w) - 1))), (3, .int (iz (ap_t w))), (0, .ref mm), (1, .long (lN w))]) hx hb dX7_put_28 hl (by decide) rfl (fun ls hl => ?_)
      have hl : lv_has ls 5 [(4, .int (iz (((ap_N 8 w : Nat) : Int) - 1))), (3, .int (iz (ap_t w))), (0, .ref mm), (1, .long (lN w))] := by rw [← (show ((ap_t w) - 1 : Int) = ((ap_N 8 w : Nat) : Int) - 1 from (by omega))]; exact hl
      have hZ : (((n : Nat) : Int) : Int) = ((n + (ap_N 8 w - (ap_N 8 w)) : Nat) : Int) := (by omega)
      have hP : va_P D vwCl [(mm, .inr (7, [.ref nw, .ref pa, .int (iz (kp)), .ref zl, .ref hd, .ref pd, .int (iz (((n + (ap_N 8 w - (ap_N 8 w)) : Nat) : Int))), .int (iz (at0)), .ref os, .int (iz (od)), .int (iz (dn)), .int (iz (pu)), .int (iz (lo2)), .int (iz (sp2)), .int (iz (lv2)), .int (iz (wa)), .ref mt, .ref cn])), (pd, .inl (T 0, 80, .inl (zA P)))] s.heap := by rw [← hZ]; exact hP
      have hD : va_D A [(mm, .inr (7, [.ref nw, .ref pa, .int (iz (kp)), .ref zl, .ref hd, .ref pd, .int (iz (((n + (ap_N 8 w - (ap_N 8 w)) : Nat) : Int))), .int (iz (at0)), .ref os, .int (iz (od)), .int (iz (dn)), .int (iz (pu)), .int (iz (lo2)), .int (iz (sp2)), .int (iz (lv2)), .int (iz (wa)), .ref mt, .ref cn])), (pd, .inl (T 0, 80, .inl (zA P)))] := by rw [← hZ]; exact hD
      have hZ : (P : Nat → Int) = apP w P n (ap_N 8 w) (ap_N 8 w - (ap_N 8 w)) := (apP_0 _ _ _ _)
      have hP : va_P D vwCl [(mm, .inr (7, [.ref nw, .ref pa, .int (iz (kp)), .ref zl, .ref hd, .ref pd, .int (iz (((n + (ap_N 8 w - (ap_N 8 w)) : Nat) : Int))), .int (iz (at0)), .ref os, .int (iz (od)), .int (iz (dn)), .int (iz (pu)), .int (iz (lo2)), .int (iz (sp2)), .int (iz (lv2)), .int (iz (wa)), .ref mt, .ref cn])), (pd, .inl (T 0, 80, .inl (zA (apP w P n (ap_N 8 w) (ap_N 8 w - (ap_N 8 w))))))] s.heap := by rw [← hZ]; exact hP
      have hD : va_D A [(mm, .inr (7, [.ref nw, .ref pa, .int (iz (kp)), .ref zl, .ref hd, .ref pd, .int (iz (((n + (ap_N 8 w - (ap_N 8 w)) : Nat) : Int))), .int (iz (at0)), .ref os, .int (iz (od)), .int (iz (dn)), .int (iz (pu)), .int (iz (lo2)), .int (iz (sp2)), .int (iz (lv2)), .int (iz (wa)), .ref mt, .ref cn])), (pd, .inl (T 0, 80, .inl (zA (apP w P n (ap_N 8 w) (ap_N 8 w - (ap_N 8 w))))))] := by rw [← hZ]; exact hD
      refine kz_loopW1 (pc := 30) (I := fun (i : Nat) (H : Heap) (locs : List Loc) (ls : Array Slot) => (i ≤ ap_N 8 w) ∧ va_P D vwCl [(mm, .inr (7, [.ref nw, .ref pa, .int (iz (kp)), .ref zl, .ref hd, .ref pd, .int (iz (((n + (ap_N 8 w - i) : Nat) : Int))), .int (iz (at0)), .ref os, .int (iz (od)), .int (iz (dn)), .int (iz (pu)), .int (iz (lo2)), .int (iz (sp2)), .int (iz (lv2)), .int (iz (wa)), .ref mt, .ref cn])), (pd, .inl (T 0, 80, .inl (zA (apP w P n (ap_N 8 w) (ap_N 8 w - i)))))] H ∧ va_D A [(mm, .inr (7, [.ref nw, .ref pa, .int (iz (kp)), .ref zl, .ref hd, .ref pd, .int (iz (((n + (ap_N 8 w - i) : Nat) : Int))), .int (iz (at0)), .ref os, .int (iz (od)), .int (iz (dn)), .int (iz (pu)), .int (iz (lo2)), .int (iz (sp2)), .int (iz (lv2)), .int (iz (wa)), .ref mt, .ref cn])), (pd, .inl (T 0, 80, .inl (zA (apP w P n (ap_N 8 w) (ap_N 8 w - i)))))] ∧ va_S A s.heap H locs ∧ lv_has ls 5 [(0, .ref mm), (1, .long (lN w)), (4, .int (iz (((i : Nat) : Int) - 1)))]) (μ := fun (i : Nat) => i) (ap_N 8 w) ⟨(by omega), hP, hD, hS, lv_sub hl [2, 3, 0] rfl⟩ ?_
      rintro i H locs ls ⟨hi, hP, hD, hS, hl⟩ ih30
      refine lv_iload hx hb dX7_put_30 (lv_at hl 2 rfl) ?_
      refine kz_if_lt (tgt := 66) hx hb dX7_put_32 (by decide) (by omega) (fun c32 => ?_) (fun c32 => ?_)
      · have hnn : i = 0 := by omega
        subst hnn
        have hl : lv_has ls 5 [(0, .ref mm), (1, .long (lN w)), (4, .int (iz (((0 : Nat) : Int) - 1)))] := hl
        refine lv_aload_n hx hb dX7_put_66 rfl (lv_at hl 0 rfl) ?_
        refine va_get (D := D) (ci := 7) (C := RX7) (T := TX7) (N := 18) hx hb hts w1 hown hK.1 hP 0 rfl rfl 6 (by decide) w0 (fun _ h9 => h9) rfl dX7_put_67 ?_
        have hZ : (((n + (ap_N 8 w - 0) : Nat) : Int) : Int) = ((apL w n : Nat) : Int) := (by rw [apL_y hyy]; omega)
        have hP : va_P D vwCl [(mm, .inr (7, [.ref nw, .ref pa, .int (iz (kp)), .ref zl, .ref hd, .ref pd, .int (iz (((apL w n : Nat) : Int))), .int (iz (at0)), .ref os, .int (iz (od)), .int (iz (dn)), .int (iz (pu)), .int (iz (lo2)), .int (iz (sp2)), .int (iz (lv2)), .int (iz (wa)), .ref mt, .ref cn])), (pd, .inl (T 0, 80, .inl (zA (apP w P n (ap_N 8 w) (ap_N 8 w - 0)))))] H := by rw [← hZ]; exact hP
        have hD : va_D A [(mm, .inr (7, [.ref nw, .ref pa, .int (iz (kp)), .ref zl, .ref hd, .ref pd, .int (iz (((apL w n : Nat) : Int))), .int (iz (at0)), .ref os, .int (iz (od)), .int (iz (dn)), .int (iz (pu)), .int (iz (lo2)), .int (iz (sp2)), .int (iz (lv2)), .int (iz (wa)), .ref mt, .ref cn])), (pd, .inl (T 0, 80, .inl (zA (apP w P n (ap_N 8 w) (ap_N 8 w - 0)))))] := by rw [← hZ]; exact hD
        have hZ : (apP w P n (ap_N 8 w) (ap_N 8 w - 0) : Nat → Int) = apS w P n := (apS_y hyy).symm
        have hP : va_P D vwCl [(mm, .inr (7, [.ref nw, .ref pa, .int (iz (kp)), .ref zl, .ref hd, .ref pd, .int (iz (((apL w n : Nat) : Int))), .int (iz (at0)), .ref os, .int (iz (od)), .int (iz (dn)), .int (iz (pu)), .int (iz (lo2)), .int (iz (sp2)), .int (iz (lv2)), .int (iz (wa)), .ref mt, .ref cn])), (pd, .inl (T 0, 80, .inl (zA (apS w P n))))] H := by rw [← hZ]; exact hP
        have hD : va_D A [(mm, .inr (7, [.ref nw, .ref pa, .int (iz (kp)), .ref zl, .ref hd, .ref pd, .int (iz (((apL w n : Nat) : Int))), .int (iz (at0)), .ref os, .int (iz (od)), .int (iz (dn)), .int (iz (pu)), .int (iz (lo2)), .int (iz (sp2)), .int (iz (lv2)), .int (iz (wa)), .ref mt, .ref cn])), (pd, .inl (T 0, 80, .inl (zA (apS w P n))))] := by rw [← hZ]; exact hD
        exact W.iret hx hb hr (fun t ht hW => ⟨⟨_, (), rfl, (congrArg iz (by unfold ap_r; rw [if_neg (by omega), if_neg (by omega)]; omega)), by show va_P _ _ _ t.heap; rw [ht]; exact hP⟩, hS.F ht⟩) hS.2.2 dX7_put_70
      · have hi1 : 0 < i := by omega
        refine lv_aload_n hx hb dX7_put_35 rfl (lv_at hl 0 rfl) ?_
        refine va_get (D := D) (ci := 7) (C := RX7) (T := TX7) (N := 18) hx hb hts w1 hown hK.1 hP 0 rfl rfl 5 (by decide) w2 (fun _ h9 => h9) rfl dX7_put_36 ?_
        refine lv_aload_n hx hb dX7_put_39 rfl (lv_at hl 0 rfl) ?_
        refine va_get (D := D) (ci := 7) (C := RX7) (T := TX7) (N := 18) hx hb hts w1 hown hK.1 hP 0 rfl rfl 6 (by decide) w0 (fun _ h9 => h9) rfl dX7_put_40 ?_
        refine lv_lload_n hx hb dX7_put_43 rfl (lv_at hl 1 rfl) ?_
        have hl : lv_has ls 5 [(0, .ref mm), (1, .long (lN w)), (4, .int (iz (((i - 1 : Nat) : Int))))] := by rw [← (show (((i : Nat) : Int) - 1 : Int) = ((i - 1 : Nat) : Int) from (by omega))]; exact hl
        refine lv_iload hx hb dX7_put_44 (lv_at hl 2 rfl) ?_
        refine kc_i (va_runS (As := [.long (lN w), .int (iz (((i - 1 : Nat) : Int)))]) (rest := [.int (iz (((n + (ap_N 8 w - i) : Nat) : Int))), .ref pd]) ⟨hx, hb, hml, hown, hts⟩ (c_X7_byteOf l D T w hw (i - 1) (by omega)) (va_cwS 2 hts gX7_put_X7_byteOf rfl rfl rfl (by decide +kernel) ⟨Nat.le_of_ble_eq_true rfl, Nat.le_of_ble_eq_true rfl⟩) (kPc.s hK (kcut hP [] rfl)) rfl rfl hl.1 rfl (lv_room (Nat.le_of_ble_eq_true rfl)) dX7_put_46 ⟨Nat.zero_le _, Nat.zero_le _⟩) (fun r2 hr2 => ?_)
        subst hr2
        refine kz_iast hx hb hK hP hD hS (1) rfl (n + (ap_N 8 w - i)) (by omega) (by omega) (by omega) dX7_put_49 (fun H locs hP hD hS => ?_)
        have hP : va_P D vwCl [(mm, .inr (7, [.ref nw, .ref pa, .int (iz (kp)), .ref zl, .ref hd, .ref pd, .int (iz (((n + (ap_N 8 w - i) : Nat) : Int))), .int (iz (at0)), .ref os, .int (iz (od)), .int (iz (dn)), .int (iz (pu)), .int (iz (lo2)), .int (iz (sp2)), .int (iz (lv2)), .int (iz (wa)), .ref mt, .ref cn])), (pd, .inl (T 0, 80, .inl (zA (zup (apP w P n (ap_N 8 w) (ap_N 8 w - i)) (n + (ap_N 8 w - i)) ((w / 256 ^ (i - 1) % 256 : Nat) : Int)))))] H := hP
        have hD : va_D A [(mm, .inr (7, [.ref nw, .ref pa, .int (iz (kp)), .ref zl, .ref hd, .ref pd, .int (iz (((n + (ap_N 8 w - i) : Nat) : Int))), .int (iz (at0)), .ref os, .int (iz (od)), .int (iz (dn)), .int (iz (pu)), .int (iz (lo2)), .int (iz (sp2)), .int (iz (lv2)), .int (iz (wa)), .ref mt, .ref cn])), (pd, .inl (T 0, 80, .inl (zA (zup (apP w P n (ap_N 8 w) (ap_N 8 w - i)) (n + (ap_N 8 w - i)) ((w / 256 ^ (i - 1) % 256 : Nat) : Int)))))] := hD
        refine lv_aload_n hx hb dX7_put_50 rfl (lv_at hl 0 rfl) ?_
        refine lv_dup hx hb dX7_put_51 rfl ?_
        refine va_get (D := D) (ci := 7) (C := RX7) (T := TX7) (N := 18) hx hb hts w1 hown hK.1 hP 0 rfl rfl 6 (by decide) w0 (fun _ h9 => h9) rfl dX7_put_52 ?_
        refine lv_iconst (v := iz (1)) hx hb dX7_put_55 (by decide) ?_
        refine kz_add hx hb dX7_put_56 ?_
        refine va_put (D := D) (ci := 7) (v := .int (iz (((n + (ap_N 8 w - i) : Nat) : Int) + 1))) (ty := .int) (C := RX7) (T := TX7) (N := 18) hx hb hts w1 tyX7 tyX7_ok nmX7 hown hK.1 hP hD hS 0 rfl rfl 6 (by decide) w0 (fun _ h9 => h9) rfl (by decide +kernel) rfl rfl (Nat.le_of_ble_eq_true rfl) dX7_put_57 (fun H locs hP hD hS => ?_)
        have hP : va_P D vwCl [(mm, .inr (7, [.ref nw, .ref pa, .int (iz (kp)), .ref zl, .ref hd, .ref pd, .int (iz (((n + (ap_N 8 w - i) : Nat) : Int) + 1)), .int (iz (at0)), .ref os, .int (iz (od)), .int (iz (dn)), .int (iz (pu)), .int (iz (lo2)), .int (iz (sp2)), .int (iz (lv2)), .int (iz (wa)), .ref mt, .ref cn])), (pd, .inl (T 0, 80, .inl (zA (zup (apP w P n (ap_N 8 w) (ap_N 8 w - i)) (n + (ap_N 8 w - i)) ((w / 256 ^ (i - 1) % 256 : Nat) : Int)))))] H := hP
        have hD : va_D A [(mm, .inr (7, [.ref nw, .ref pa, .int (iz (kp)), .ref zl, .ref hd, .ref pd, .int (iz (((n + (ap_N 8 w - i) : Nat) : Int) + 1)), .int (iz (at0)), .ref os, .int (iz (od)), .int (iz (dn)), .int (iz (pu)), .int (iz (lo2)), .int (iz (sp2)), .int (iz (lv2)), .int (iz (wa)), .ref mt, .ref cn])), (pd, .inl (T 0, 80, .inl (zA (zup (apP w P n (ap_N 8 w) (ap_N 8 w - i)) (n + (ap_N 8 w - i)) ((w / 256 ^ (i - 1) % 256 : Nat) : Int)))))] := hD
        refine kz_iinc (b := ((i - 1 : Nat) : Int) - 1) (lv' := [(4, .int (iz (((i - 1 : Nat) : Int) - 1))), (0, .ref mm), (1, .long (lN w))]) hx hb dX7_put_60 hl (k := 2) rfl (by omega) (by decide) rfl (fun ls hl => ?_)
        refine lv_goto (tgt := 30) hx hb dX7_put_63 (by decide) ?_
        have hZ : (((n + (ap_N 8 w - i) : Nat) : Int) + 1 : Int) = ((n + (ap_N 8 w - (i - 1)) : Nat) : Int) := (by omega)
        have hP : va_P D vwCl [(mm, .inr (7, [.ref nw, .ref pa, .int (iz (kp)), .ref zl, .ref hd, .ref pd, .int (iz (((n + (ap_N 8 w - (i - 1)) : Nat) : Int))), .int (iz (at0)), .ref os, .int (iz (od)), .int (iz (dn)), .int (iz (pu)), .int (iz (lo2)), .int (iz (sp2)), .int (iz (lv2)), .int (iz (wa)), .ref mt, .ref cn])), (pd, .inl (T 0, 80, .inl (zA (zup (apP w P n (ap_N 8 w) (ap_N 8 w - i)) (n + (ap_N 8 w - i)) ((w / 256 ^ (i - 1) % 256 : Nat) : Int)))))] H := by rw [← hZ]; exact hP
        have hD : va_D A [(mm, .inr (7, [.ref nw, .ref pa, .int (iz (kp)), .ref zl, .ref hd, .ref pd, .int (iz (((n + (ap_N 8 w - (i - 1)) : Nat) : Int))), .int (iz (at0)), .ref os, .int (iz (od)), .int (iz (dn)), .int (iz (pu)), .int (iz (lo2)), .int (iz (sp2)), .int (iz (lv2)), .int (iz (wa)), .ref mt, .ref cn])), (pd, .inl (T 0, 80, .inl (zA (zup (apP w P n (ap_N 8 w) (ap_N 8 w - i)) (n + (ap_N 8 w - i)) ((w / 256 ^ (i - 1) % 256 : Nat) : Int)))))] := by rw [← hZ]; exact hD
        have hZ : (zup (apP w P n (ap_N 8 w) (ap_N 8 w - i)) (n + (ap_N 8 w - i)) ((w / 256 ^ (i - 1) % 256 : Nat) : Int) : Nat → Int) = apP w P n (ap_N 8 w) (ap_N 8 w - (i - 1)) := (apP_s (by omega) hi)
        have hP : va_P D vwCl [(mm, .inr (7, [.ref nw, .ref pa, .int (iz (kp)), .ref zl, .ref hd, .ref pd, .int (iz (((n + (ap_N 8 w - (i - 1)) : Nat) : Int))), .int (iz (at0)), .ref os, .int (iz (od)), .int (iz (dn)), .int (iz (pu)), .int (iz (lo2)), .int (iz (sp2)), .int (iz (lv2)), .int (iz (wa)), .ref mt, .ref cn])), (pd, .inl (T 0, 80, .inl (zA (apP w P n (ap_N 8 w) (ap_N 8 w - (i - 1))))))] H := by rw [← hZ]; exact hP
        have hD : va_D A [(mm, .inr (7, [.ref nw, .ref pa, .int (iz (kp)), .ref zl, .ref hd, .ref pd, .int (iz (((n + (ap_N 8 w - (i - 1)) : Nat) : Int))), .int (iz (at0)), .ref os, .int (iz (od)), .int (iz (dn)), .int (iz (pu)), .int (iz (lo2)), .int (iz (sp2)), .int (iz (lv2)), .int (iz (wa)), .ref mt, .ref cn])), (pd, .inl (T 0, 80, .inl (zA (apP w P n (ap_N 8 w) (ap_N 8 w - (i - 1))))))] := by rw [← hZ]; exact hD
        exact ih30 (i - 1) _ _ _ ⟨(by omega), hP, hD, hS, lv_sub hl [1, 2, 0] rfl⟩ (by omega)
    · have hyn : ¬ ap_y w n := by unfold ap_y; omega
      refine lv_bipush (v := iz (-4)) hx hb dX7_put_22 (by decide) ?_
      have hZ : (((n : Nat) : Int) : Int) = ((apL w n : Nat) : Int) := (by rw [apL_n hyn])
      have hP : va_P D vwCl [(mm, .inr (7, [.ref nw, .ref pa, .int (iz (kp)), .ref zl, .ref hd, .ref pd, .int (iz (((apL w n : Nat) : Int))), .int (iz (at0)), .ref os, .int (iz (od)), .int (iz (dn)), .int (iz (pu)), .int (iz (lo2)), .int (iz (sp2)), .int (iz (lv2)), .int (iz (wa)), .ref mt, .ref cn])), (pd, .inl (T 0, 80, .inl (zA P)))] s.heap := by rw [← hZ]; exact hP
      have hD : va_D A [(mm, .inr (7, [.ref nw, .ref pa, .int (iz (kp)), .ref zl, .ref hd, .ref pd, .int (iz (((apL w n : Nat) : Int))), .int (iz (at0)), .ref os, .int (iz (od)), .int (iz (dn)), .int (iz (pu)), .int (iz (lo2)), .int (iz (sp2)), .int (iz (lv2)), .int (iz (wa)), .ref mt, .ref cn])), (pd, .inl (T 0, 80, .inl (zA P)))] := by rw [← hZ]; exact hD
      have hZ : (P : Nat → Int) = apS w P n := (apS_n hyn).symm
      have hP : va_P D vwCl [(mm, .inr (7, [.ref nw, .ref pa, .int (iz (kp)), .ref zl, .ref hd, .ref pd, .int (iz (((apL w n : Nat) : Int))), .int (iz (at0)), .ref os, .int (iz (od)), .int (iz (dn)), .int (iz (pu)), .int (iz (lo2)), .int (iz (sp2)), .int (iz (lv2)), .int (iz (wa)), .ref mt, .ref cn])), (pd, .inl (T 0, 80, .inl (zA (apS w P n))))] s.heap := by rw [← hZ]; exact hP
      have hD : va_D A [(mm, .inr (7, [.ref nw, .ref pa, .int (iz (kp)), .ref zl, .ref hd, .ref pd, .int (iz (((apL w n : Nat) : Int))), .int (iz (at0)), .ref os, .int (iz (od)), .int (iz (dn)), .int (iz (pu)), .int (iz (lo2)), .int (iz (sp2)), .int (iz (lv2)), .int (iz (wa)), .ref mt, .ref cn])), (pd, .inl (T 0, 80, .inl (zA (apS w P n))))] := by rw [← hZ]; exact hD
      exact W.iret hx hb hr (fun t ht hW => ⟨⟨_, (), rfl, (congrArg iz (by unfold ap_r; rw [if_neg (by omega), if_pos (by omega)])), by show va_P _ _ _ t.heap; rw [ht]; exact hP⟩, hS.F ht⟩) hS.2.2 dX7_put_24
  · have hyn : ¬ ap_y w n := by unfold ap_y; omega
    refine lv_iload_n hx hb dX7_put_9 rfl (lv_at hl 0 rfl) ?_
    have hZ : (((n : Nat) : Int) : Int) = ((apL w n : Nat) : Int) := (by rw [apL_n hyn])
    have hP : va_P D vwCl [(mm, .inr (7, [.ref nw, .ref pa, .int (iz (kp)), .ref zl, .ref hd, .ref pd, .int (iz (((apL w n : Nat) : Int))), .int (iz (at0)), .ref os, .int (iz (od)), .int (iz (dn)), .int (iz (pu)), .int (iz (lo2)), .int (iz (sp2)), .int (iz (lv2)), .int (iz (wa)), .ref mt, .ref cn])), (pd, .inl (T 0, 80, .inl (zA P)))] s.heap := by rw [← hZ]; exact hP
    have hD : va_D A [(mm, .inr (7, [.ref nw, .ref pa, .int (iz (kp)), .ref zl, .ref hd, .ref pd, .int (iz (((apL w n : Nat) : Int))), .int (iz (at0)), .ref os, .int (iz (od)), .int (iz (dn)), .int (iz (pu)), .int (iz (lo2)), .int (iz (sp2)), .int (iz (lv2)), .int (iz (wa)), .ref mt, .ref cn])), (pd, .inl (T 0, 80, .inl (zA P)))] := by rw [← hZ]; exact hD
    have hZ : (P : Nat → Int) = apS w P n := (apS_n hyn).symm
    have hP : va_P D vwCl [(mm, .inr (7, [.ref nw, .ref pa, .int (iz (kp)), .ref zl, .ref hd, .ref pd, .int (iz (((apL w n : Nat) : Int))), .int (iz (at0)), .ref os, .int (iz (od)), .int (iz (dn)), .int (iz (pu)), .int (iz (lo2)), .int (iz (sp2)), .int (iz (lv2)), .int (iz (wa)), .ref mt, .ref cn])), (pd, .inl (T 0, 80, .inl (zA (apS w P n))))] s.heap := by rw [← hZ]; exact hP
    have hD : va_D A [(mm, .inr (7, [.ref nw, .ref pa, .int (iz (kp)), .ref zl, .ref hd, .ref pd, .int (iz (((apL w n : Nat) : Int))), .int (iz (at0)), .ref os, .int (iz (od)), .int (iz (dn)), .int (iz (pu)), .int (iz (lo2)), .int (iz (sp2)), .int (iz (lv2)), .int (iz (wa)), .ref mt, .ref cn])), (pd, .inl (T 0, 80, .inl (zA (apS w P n))))] := by rw [← hZ]; exact hD
    exact W.iret hx hb hr (fun t ht hW => ⟨⟨_, (), rfl, (congrArg iz (by unfold ap_r; rw [if_pos (by omega)]; omega)), by show va_P _ _ _ t.heap; rw [ht]; exact hP⟩, hS.F ht⟩) hS.2.2 dX7_put_10
set_option maxHeartbeats 4000000 in
set_option maxRecDepth 100000 in
theorem c_X7_wipe (l : Launch) (D : va_G) (T : Nat → ClassId) (sz : Nat) (mm : Nat) (nw : Nat) (pa : Nat) (kp : Int) (zl : Nat) (hd : Nat) (pd : Nat) (pn : Int) (at0 : Int) (os : Nat) (od : Int) (dn : Int) (pu : Int) (lo2 : Int) (sp2 : Int) (lv2 : Int) (wa : Int) (mt : Nat) (cn : Nat) : Met l yX7_wipe wsX7_wipe ({ frames := 0, cells := 0, slots := 0, locals := 0 }) (kPc D T [.ref mm] (kW D sz [(mm, .inr (7, [.ref nw, .ref pa, .int (iz (kp)), .ref zl, .ref hd, .ref pd, .int (iz (pn)), .int (iz (at0)), .ref os, .int (iz (od)), .int (iz (dn)), .int (iz (pu)), .int (iz (lo2)), .int (iz (sp2)), .int (iz (lv2)), .int (iz (wa)), .ref mt, .ref cn]))])) (va_Qi (fun (r : Int32) (u : Unit) => r = iz (pn)) (fun (u : Unit) (t : State) => va_P D vwCl [(mm, .inr (7, [.ref nw, .ref pa, .int (iz (kp)), .ref zl, .ref hd, .ref pd, .int (iz (0)), .int (iz (at0)), .ref os, .int (iz (od)), .int (iz (dn)), .int (iz (pu)), .int (iz (lo2)), .int (iz (sp2)), .int (iz (lv2)), .int (iz (wa)), .ref mt, .ref cn]))] t.heap) (va_A [(mm, .inr (7, [.ref nw, .ref pa, .int (iz (kp)), .ref zl, .ref hd, .ref pd, .int (iz (pn)), .int (iz (at0)), .ref os, .int (iz (od)), .int (iz (dn)), .int (iz (pu)), .int (iz (lo2)), .int (iz (sp2)), .int (iz (lv2)), .int (iz (wa)), .ref mt, .ref cn]))] sz)) 0 0 (va_A [(mm, .inr (7, [.ref nw, .ref pa, .int (iz (kp)), .ref zl, .ref hd, .ref pd, .int (iz (pn)), .int (iz (at0)), .ref os, .int (iz (od)), .int (iz (dn)), .int (iz (pu)), .int (iz (lo2)), .int (iz (sp2)), .int (iz (lv2)), .int (iz (wa)), .ref mt, .ref cn]))] sz) := by
  refine Met.ofW (cc := cX7_wipe) (maxL := 2) (ret := (some .int)) (by decide) rfl ?_
  intro p e s m args below meth c s₁ B hml hv
  obtain ⟨rfl, hK, hsz, hP, hD0⟩ := hv
  have hx := B.exec
  have hb := B.bytes
  have hr := B.returns
  have hts := atoms_spec (ws := wsX7_wipe) B.pre
  have hown : s.vm.findClass RX7 = some m.cls := findClass_of_methodNamed B.named
  have hlocks := B.notSynchronized
  have w0 := hts (.fieldLink RX7 152 "LakePlantModel" "padded" "I") (List.mem_of_getElem? (i := 1) rfl)
  have w1 : ∀ w ∈ wsX70, w ∈ wsX7_wipe := by decide +kernel
  subst hsz
  have hD := hD0.self (sz := s.heap.size)
  generalize hAe : va_A [(mm, .inr (7, [.ref nw, .ref pa, .int (iz (kp)), .ref zl, .ref hd, .ref pd, .int (iz (pn)), .int (iz (at0)), .ref os, .int (iz (od)), .int (iz (dn)), .int (iz (pu)), .int (iz (lo2)), .int (iz (sp2)), .int (iz (lv2)), .int (iz (wa)), .ref mt, .ref cn]))] s.heap.size = A at hD ⊢
  have hA : ∀ q : Nat, s.heap.size ≤ q → A q := fun q h => by rw [← hAe]; exact Or.inr h
  have hS : va_S A s.heap s.heap [] := va_S.rf
  have hP : va_P D vwCl [(mm, .inr (7, [.ref nw, .ref pa, .int (iz (kp)), .ref zl, .ref hd, .ref pd, .int (iz (pn)), .int (iz (at0)), .ref os, .int (iz (od)), .int (iz (dn)), .int (iz (pu)), .int (iz (lo2)), .int (iz (sp2)), .int (iz (lv2)), .int (iz (wa)), .ref mt, .ref cn]))] s.heap := hP
  have hl := lv_entry ([.ref mm]) (n := 2) (Nat.le_of_ble_eq_true rfl)
  rw [lg_entry_eq]
  generalize (lg_sl ([.ref mm]) ++ List.replicate (2 - (lg_sl ([.ref mm])).length) Slot.unset).toArray = ls at hl ⊢
  have hl : lv_has ls 2 [(0, .ref mm)] := hl
  refine lv_aload_n hx hb dX7_wipe_0 rfl (lv_at hl 0 rfl) ?_
  refine va_get (D := D) (ci := 7) (C := RX7) (T := TX7) (N := 18) hx hb hts w1 hown hK.1 hP 0 rfl rfl 6 (by decide) w0 (fun _ h9 => h9) rfl dX7_wipe_1 ?_
  refine lv_istore_n (lv' := [(1, .int (iz (pn))), (0, .ref mm)]) hx hb dX7_wipe_4 rfl hl (by decide) rfl (fun ls hl => ?_)
  refine lv_aload_n hx hb dX7_wipe_5 rfl (lv_at hl 1 rfl) ?_
  refine lv_iconst (v := iz (0)) hx hb dX7_wipe_6 (by decide) ?_
  refine va_put (D := D) (ci := 7) (v := .int (iz (0))) (ty := .int) (C := RX7) (T := TX7) (N := 18) hx hb hts w1 tyX7 tyX7_ok nmX7 hown hK.1 hP hD hS 0 rfl rfl 6 (by decide) w0 (fun _ h9 => h9) rfl (by decide +kernel) rfl rfl (Nat.le_of_ble_eq_true rfl) dX7_wipe_7 (fun H locs hP hD hS => ?_)
  have hP : va_P D vwCl [(mm, .inr (7, [.ref nw, .ref pa, .int (iz (kp)), .ref zl, .ref hd, .ref pd, .int (iz (0)), .int (iz (at0)), .ref os, .int (iz (od)), .int (iz (dn)), .int (iz (pu)), .int (iz (lo2)), .int (iz (sp2)), .int (iz (lv2)), .int (iz (wa)), .ref mt, .ref cn]))] H := hP
  have hD : va_D A [(mm, .inr (7, [.ref nw, .ref pa, .int (iz (kp)), .ref zl, .ref hd, .ref pd, .int (iz (0)), .int (iz (at0)), .ref os, .int (iz (od)), .int (iz (dn)), .int (iz (pu)), .int (iz (lo2)), .int (iz (sp2)), .int (iz (lv2)), .int (iz (wa)), .ref mt, .ref cn]))] := hD
  refine lv_iload_n hx hb dX7_wipe_10 rfl (lv_at hl 0 rfl) ?_
  exact W.iret hx hb hr (fun t ht hW => ⟨⟨_, (), rfl, rfl, by show va_P _ _ _ t.heap; rw [ht]; exact hP⟩, hS.F ht⟩) hS.2.2 dX7_wipe_11
