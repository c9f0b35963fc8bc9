set_option maxHeartbeats 4000000 in
set_option maxRecDepth 100000 in
theorem c_X3_append (l : Launch) (D : va_G) (T : Nat → ClassId) (sz : Nat) (hp : Nat) (sg : Nat) (P : Nat → Int) (n : Nat) (hVP : VP P n) (w : Nat) (hw : w < 18446744073709551616) : Met l yX3_append wsX3_append ({ frames := 0, cells := 0, slots := 0, locals := 0 }) (kPc D T [.ref hp, .long (lN w)] (kW D sz [(hp, .inr (3, [.ref sg, .int (iz (((n : Nat) : Int)))])), (sg, .inl (T 3, 80, .inl (zA P)))])) (va_Qi (fun (r : Int32) (u : Unit) => r = iz (ap_r w n)) (fun (u : Unit) (t : State) => va_P D vwCl [(hp, .inr (3, [.ref sg, .int (iz (((apL w n : Nat) : Int)))])), (sg, .inl (T 3, 80, .inl (zA (apS w P n))))] t.heap) (va_A [(hp, .inr (3, [.ref sg, .int (iz (((n : Nat) : Int)))])), (sg, .inl (T 3, 80, .inl (zA P)))] sz)) 0 0 (va_A [(hp, .inr (3, [.ref sg, .int (iz (((n : Nat) : Int)))])), (sg, .inl (T 3, 80, .inl (zA P)))] sz) := by
  refine Met.ofW (cc := cX3_append) (maxL := 7) (ret := (some .int)) (by decide) rfl ?_
  intro p e s m args below meth c s₁ B hml hv
  obtain ⟨rfl, hK, hsz, hP, hD0⟩ := hv
  have hx := B.exec
  have hb := B.bytes
  have hr := B.returns
  have hts := atoms_spec (ws := wsX3_append) B.pre
  have hown : s.vm.findClass RX3 = some m.cls := findClass_of_methodNamed B.named
  have hlocks := B.notSynchronized
  have w0 := hts (.fieldLink RX3 15 "LakePlant$Pad" "length" "I") (List.mem_of_getElem? (i := 4) rfl)
  have w1 : ∀ w ∈ wsX30, w ∈ wsX3_append := by decide +kernel
  have w2 := hts (.fieldLink RX3 9 "LakePlant$Pad" "signs" "[C") (List.mem_of_getElem? (i := 5) rfl)
  have w3 := hts (.constantLong RX3 19 (255)) (List.mem_of_getElem? (i := 1) rfl)
  have w4 := hts (.constantLong RX3 21 (33)) (List.mem_of_getElem? (i := 2) rfl)
  have w5 := hts (.constantLong RX3 23 (126)) (List.mem_of_getElem? (i := 3) rfl)
  subst hsz
  have hD := hD0.self (sz := s.heap.size)
  generalize hAe : va_A [(hp, .inr (3, [.ref sg, .int (iz (((n : Nat) : Int)))])), (sg, .inl (T 3, 80, .inl (zA P)))] s.heap.size = A at hD ⊢
  have hA : ∀ q : Nat, s.heap.size ≤ q → A q := fun q h => by rw [← hAe]; exact Or.inr h
  have hS : va_S A s.heap s.heap [] := va_S.rf
  have hP : va_P D vwCl [(hp, .inr (3, [.ref sg, .int (iz (((n : Nat) : Int)))])), (sg, .inl (T 3, 80, .inl (zA P)))] s.heap := hP
  have hl := lv_entry ([.ref hp, .long (lN w)]) (n := 7) (Nat.le_of_ble_eq_true rfl)
  rw [lg_entry_eq]
  generalize (lg_sl ([.ref hp, .long (lN w)]) ++ List.replicate (7 - (lg_sl ([.ref hp, .long (lN w)])).length) Slot.unset).toArray = ls at hl ⊢
  have hl : lv_has ls 7 [(0, .ref hp), (1, .long (lN w))] := hl
  have hn80 := hVP.1
  have hN8 := ap_Nle 8 w
  refine lv_iconst (v := iz (0)) hx hb dX3_append_0 (by decide) ?_
  refine lv_istore_n (lv' := [(3, .int (iz (0))), (0, .ref hp), (1, .long (lN w))]) hx hb dX3_append_1 rfl hl (by decide) rfl (fun ls hl => ?_)
  refine lv_lload_n hx hb dX3_append_2 rfl (lv_at hl 2 rfl) ?_
  refine lv_lstore (lv' := [(4, .long (lN w)), (3, .int (iz (0))), (0, .ref hp), (1, .long (lN w))]) hx hb dX3_append_3 hl (by decide) rfl (fun ls hl => ?_)
  have hl : lv_has ls 7 [(4, .long (lN w)), (3, .int (iz (((0 : Nat) : Int)))), (0, .ref hp), (1, .long (lN w))] := by rw [← (show (0 : Int) = ((0 : Nat) : Int) from (by first | rfl | omega))]; exact hl
  refine kz_loopW2 (pc := 5) (I := fun (k : Nat) (v : Nat) (H : Heap) (locs : List Loc) (ls : Array Slot) => (k ≤ 8) ∧ (v = w / 256 ^ k) ∧ (v < 18446744073709551616 ∧ (0 < k → v < 72057594037927936)) ∧ (ap_N 8 w = ap_N (8 - k) v + k) ∧ (ap_G 8 w = ap_G (8 - k) v) ∧ va_P D vwCl [(hp, .inr (3, [.ref sg, .int (iz (((n : Nat) : Int)))])), (sg, .inl (T 3, 80, .inl (zA P)))] H ∧ va_D A [(hp, .inr (3, [.ref sg, .int (iz (((n : Nat) : Int)))])), (sg, .inl (T 3, 80, .inl (zA P)))] ∧ va_S A s.heap H locs ∧ lv_has ls 7 [(0, .ref hp), (1, .long (lN w)), (3, .int (iz (((k : Nat) : Int)))), (4, .long (lN v))]) (μ := fun (k : Nat) (v : Nat) => 8 - k) 0 w ⟨(by omega), (by rw [Nat.pow_zero, Nat.div_one]), (by omega), rfl, rfl, hP, hD, hS, lv_sub hl [2, 3, 1, 0] rfl⟩ ?_
  rintro k v H locs ls ⟨hk8, hvw, hvb, hN, hG, hP, hD, hS, hl⟩ ih5
  refine lv_iload_n hx hb dX3_append_5 rfl (lv_at hl 2 rfl) ?_
  refine lv_bipush (v := iz (8)) hx hb dX3_append_6 (by decide) ?_
  refine kz_icmp_ge (tgt := 64) hx hb dX3_append_8 (by decide) (by omega) (by omega) (fun c8 => ?_) (fun c8 => ?_)
  · have hnn : k = ap_N 8 w := by have := ap_Nle (8 - k) v; omega
    have hg : ap_G 8 w = true := by rw [hG, show 8 - k = 0 by omega]; rfl
    subst hnn
    have hl : lv_has ls 7 [(0, .ref hp), (1, .long (lN w)), (3, .int (iz (((ap_N 8 w : Nat) : Int)))), (4, .long (lN v))] := hl
    refine lv_iload_n hx hb dX3_append_64 rfl (lv_at hl 2 rfl) ?_
    refine kz_if_eq (tgt := 75) hx hb dX3_append_65 (by decide) (by omega) (fun c65 => ?_) (fun c65 => ?_)
    · have hbad : ap_t w = -2 := ap_tb (Or.inr (Or.inl (by omega)))
      have hny : ¬ ap_y w n := fun q => by unfold ap_y at q; omega
      refine lv_bipush (v := iz (-2)) hx hb dX3_append_75 (by decide) ?_
      have hZ : (((n : Nat) : Int) : Int) = ((apL w n : Nat) : Int) := (by rw [apL_n hny])
      have hP : va_P D vwCl [(hp, .inr (3, [.ref sg, .int (iz (((apL w n : Nat) : Int)))])), (sg, .inl (T 3, 80, .inl (zA P)))] H := by rw [← hZ]; exact hP
      have hD : va_D A [(hp, .inr (3, [.ref sg, .int (iz (((apL w n : Nat) : Int)))])), (sg, .inl (T 3, 80, .inl (zA P)))] := by rw [← hZ]; exact hD
      have hZ : (P : Nat → Int) = apS w P n := (apS_n hny).symm
      have hP : va_P D vwCl [(hp, .inr (3, [.ref sg, .int (iz (((apL w n : Nat) : Int)))])), (sg, .inl (T 3, 80, .inl (zA (apS w P n))))] H := by rw [← hZ]; exact hP
      have hD : va_D A [(hp, .inr (3, [.ref sg, .int (iz (((apL w n : Nat) : Int)))])), (sg, .inl (T 3, 80, .inl (zA (apS w P n))))] := by rw [← hZ]; exact hD
      exact W.iret hx hb hr (fun t ht hW => ⟨⟨_, (), rfl, (congrArg iz (by unfold ap_r; rw [if_pos (by omega)])), by show va_P _ _ _ t.heap; rw [ht]; exact hP⟩, hS.F ht⟩) hS.2.2 dX3_append_77
    · refine lv_lload hx hb dX3_append_68 (lv_at hl 3 rfl) ?_
      refine lv_lconst (v := lN 0) hx hb dX3_append_70 (by decide) ?_
      refine kz_lcmp hx hb (by omega) (by omega) dX3_append_71 ?_
      have hc71 := ncmp_spec v 0
      refine kz_if_eq (tgt := 78) hx hb dX3_append_72 (by decide) (by omega) (fun c72 => ?_) (fun c72 => ?_)
      · have ht2 : ap_t w = (ap_N 8 w : Int) := ap_to hg (by omega) (by rw [← hvw]; omega)
        refine lv_aload_n hx hb dX3_append_78 rfl (lv_at hl 0 rfl) ?_
        refine va_get (D := D) (ci := 3) (C := RX3) (T := TX3) (N := 2) hx hb hts w1 hown hK.1 hP 0 rfl rfl 1 (by decide) w0 (fun _ h9 => h9) rfl dX3_append_79 ?_
        refine lv_iload_n hx hb dX3_append_82 rfl (lv_at hl 2 rfl) ?_
        refine kz_add hx hb dX3_append_83 ?_
        refine lv_bipush (v := iz (80)) hx hb dX3_append_84 (by decide) ?_
        refine kz_icmp_le (tgt := 92) hx hb dX3_append_86 (by decide) (by omega) (by omega) (fun c86 => ?_) (fun c86 => ?_)
        · have hyy : ap_y w n := by unfold ap_y; omega
          refine lv_iload_n hx hb dX3_append_92 rfl (lv_at hl 2 rfl) ?_
          refine lv_iconst (v := iz (1)) hx hb dX3_append_93 (by decide) ?_
          refine kz_sub hx hb dX3_append_94 ?_
          refine lv_istore (lv' := [(6, .int (iz (((ap_N 8 w : Nat) : Int) - 1))), (0, .ref hp), (1, .long (lN w)), (3, .int (iz (((ap_N 8 w : Nat) : Int)))), (4, .long (lN v))]) hx hb dX3_append_95 hl (by decide) rfl (fun ls hl => ?_)
          have hZ : (((n : Nat) : Int) : Int) = ((n + (ap_N 8 w - (ap_N 8 w)) : Nat) : Int) := (by omega)
          have hP : va_P D vwCl [(hp, .inr (3, [.ref sg, .int (iz (((n + (ap_N 8 w - (ap_N 8 w)) : Nat) : Int)))])), (sg, .inl (T 3, 80, .inl (zA P)))] H := by rw [← hZ]; exact hP
          have hD : va_D A [(hp, .inr (3, [.ref sg, .int (iz (((n + (ap_N 8 w - (ap_N 8 w)) : Nat) : Int)))])), (sg, .inl (T 3, 80, .inl (zA P)))] := by rw [← hZ]; exact hD
          have hZ : (P : Nat → Int) = apP w P n (ap_N 8 w) (ap_N 8 w - (ap_N 8 w)) := (apP_0 _ _ _ _)
          have hP : va_P D vwCl [(hp, .inr (3, [.ref sg, .int (iz (((n + (ap_N 8 w - (ap_N 8 w)) : Nat) : Int)))])), (sg, .inl (T 3, 80, .inl (zA (apP w P n (ap_N 8 w) (ap_N 8 w - (ap_N 8 w))))))] H := by rw [← hZ]; exact hP
          have hD : va_D A [(hp, .inr (3, [.ref sg, .int (iz (((n + (ap_N 8 w - (ap_N 8 w)) : Nat) : Int)))])), (sg, .inl (T 3, 80, .inl (zA (apP w P n (ap_N 8 w) (ap_N 8 w - (ap_N 8 w))))))] := by rw [← hZ]; exact hD
          refine kz_loopW1 (pc := 97) (I := fun (i : Nat) (H : Heap) (locs : List Loc) (ls : Array Slot) => (i ≤ ap_N 8 w) ∧ va_P D vwCl [(hp, .inr (3, [.ref sg, .int (iz (((n + (ap_N 8 w - i) : Nat) : Int)))])), (sg, .inl (T 3, 80, .inl (zA (apP w P n (ap_N 8 w) (ap_N 8 w - i)))))] H ∧ va_D A [(hp, .inr (3, [.ref sg, .int (iz (((n + (ap_N 8 w - i) : Nat) : Int)))])), (sg, .inl (T 3, 80, .inl (zA (apP w P n (ap_N 8 w) (ap_N 8 w - i)))))] ∧ va_S A s.heap H locs ∧ lv_has ls 7 [(0, .ref hp), (1, .long (lN w)), (6, .int (iz (((i : Nat) : Int) - 1)))]) (μ := fun (i : Nat) => i) (ap_N 8 w) ⟨(by omega), hP, hD, hS, lv_sub hl [1, 2, 0] rfl⟩ ?_
          rintro i H locs ls ⟨hi, hP, hD, hS, hl⟩ ih97
          refine lv_iload hx hb dX3_append_97 (lv_at hl 2 rfl) ?_
          refine kz_if_lt (tgt := 140) hx hb dX3_append_99 (by decide) (by omega) (fun c99 => ?_) (fun c99 => ?_)
          · have hnn : i = 0 := by omega
            subst hnn
            have hl : lv_has ls 7 [(0, .ref hp), (1, .long (lN w)), (6, .int (iz (((0 : Nat) : Int) - 1)))] := hl
            refine lv_aload_n hx hb dX3_append_140 rfl (lv_at hl 0 rfl) ?_
            refine va_get (D := D) (ci := 3) (C := RX3) (T := TX3) (N := 2) hx hb hts w1 hown hK.1 hP 0 rfl rfl 1 (by decide) w0 (fun _ h9 => h9) rfl dX3_append_141 ?_
            have hZ : (((n + (ap_N 8 w - 0) : Nat) : Int) : Int) = ((apL w n : Nat) : Int) := (by rw [apL_y hyy]; omega)
            have hP : va_P D vwCl [(hp, .inr (3, [.ref sg, .int (iz (((apL w n : Nat) : Int)))])), (sg, .inl (T 3, 80, .inl (zA (apP w P n (ap_N 8 w) (ap_N 8 w - 0)))))] H := by rw [← hZ]; exact hP
            have hD : va_D A [(hp, .inr (3, [.ref sg, .int (iz (((apL w n : Nat) : Int)))])), (sg, .inl (T 3, 80, .inl (zA (apP w P n (ap_N 8 w) (ap_N 8 w - 0)))))] := by rw [← hZ]; exact hD
            have hZ : (apP w P n (ap_N 8 w) (ap_N 8 w - 0) : Nat → Int) = apS w P n := (apS_y hyy).symm
            have hP : va_P D vwCl [(hp, .inr (3, [.ref sg, .int (iz (((apL w n : Nat) : Int)))])), (sg, .inl (T 3, 80, .inl (zA (apS w P n))))] H := by rw [← hZ]; exact hP
            have hD : va_D A [(hp, .inr (3, [.ref sg, .int (iz (((apL w n : Nat) : Int)))])), (sg, .inl (T 3, 80, .inl (zA (apS w P n))))] := by rw [← hZ]; exact hD
            exact W.iret hx hb hr (fun t ht hW => ⟨⟨_, (), rfl, (congrArg iz (by unfold ap_r; rw [if_neg (by omega), if_neg (by omega)]; omega)), by show va_P _ _ _ t.heap; rw [ht]; exact hP⟩, hS.F ht⟩) hS.2.2 dX3_append_144
          · refine lv_aload_n hx hb dX3_append_102 rfl (lv_at hl 0 rfl) ?_
            refine va_get (D := D) (ci := 3) (C := RX3) (T := TX3) (N := 2) hx hb hts w1 hown hK.1 hP 0 rfl rfl 0 (by decide) w2 (fun _ h9 => h9) rfl dX3_append_103 ?_
            refine lv_aload_n hx hb dX3_append_106 rfl (lv_at hl 0 rfl) ?_
            refine va_get (D := D) (ci := 3) (C := RX3) (T := TX3) (N := 2) hx hb hts w1 hown hK.1 hP 0 rfl rfl 1 (by decide) w0 (fun _ h9 => h9) rfl dX3_append_107 ?_
            refine lv_lload_n hx hb dX3_append_110 rfl (lv_at hl 1 rfl) ?_
            refine lv_bipush (v := iz (8)) hx hb dX3_append_111 (by decide) ?_
            refine lv_iload hx hb dX3_append_113 (lv_at hl 2 rfl) ?_
            refine kz_mul hx hb dX3_append_115 ?_
            refine kz_top (y := 8 * ((i - 1 : Nat) : Int)) (by omega) ?_
            refine kz_lushr (i := i - 1) hx hb (by omega) (by omega) dX3_append_116 ?_
            refine lv_ldc2 (v := lN 255) hx hb hown w3 dX3_append_117 ?_
            refine kz_land hx hb (Nat.lt_of_le_of_lt (Nat.div_le_self _ _) hw) dX3_append_120 ?_
            refine lv_l2i hx hb dX3_append_121 (bt_l2i ((w / 256 ^ (i - 1)) % 256)) ?_
            refine lv_i2c hx hb dX3_append_122 (bt_i2c (by omega)) ?_
            refine kz_cast hx hb hK hP hD hS (1) rfl (n + (ap_N 8 w - i)) (by omega) (by omega) (by omega) (by omega) dX3_append_123 (fun H locs hP hD hS => ?_)
            have hP : va_P D vwCl [(hp, .inr (3, [.ref sg, .int (iz (((n + (ap_N 8 w - i) : Nat) : Int)))])), (sg, .inl (T 3, 80, .inl (zA (zup (apP w P n (ap_N 8 w) (ap_N 8 w - i)) (n + (ap_N 8 w - i)) ((((w / 256 ^ (i - 1)) % 256) : Nat) : Int)))))] H := hP
            have hD : va_D A [(hp, .inr (3, [.ref sg, .int (iz (((n + (ap_N 8 w - i) : Nat) : Int)))])), (sg, .inl (T 3, 80, .inl (zA (zup (apP w P n (ap_N 8 w) (ap_N 8 w - i)) (n + (ap_N 8 w - i)) ((((w / 256 ^ (i - 1)) % 256) : Nat) : Int)))))] := hD
            refine lv_aload_n hx hb dX3_append_124 rfl (lv_at hl 0 rfl) ?_
            refine lv_dup hx hb dX3_append_125 rfl ?_
            refine va_get (D := D) (ci := 3) (C := RX3) (T := TX3) (N := 2) hx hb hts w1 hown hK.1 hP 0 rfl rfl 1 (by decide) w0 (fun _ h9 => h9) rfl dX3_append_126 ?_
            refine lv_iconst (v := iz (1)) hx hb dX3_append_129 (by decide) ?_
            refine kz_add hx hb dX3_append_130 ?_
            refine va_put (D := D) (ci := 3) (v := .int (iz (((n + (ap_N 8 w - i) : Nat) : Int) + 1))) (ty := .int) (C := RX3) (T := TX3) (N := 2) hx hb hts w1 tyX3 tyX3_ok nmX3 hown hK.1 hP hD hS 0 rfl rfl 1 (by decide) w0 (fun _ h9 => h9) rfl (by decide +kernel) rfl rfl (Nat.le_of_ble_eq_true rfl) dX3_append_131 (fun H locs hP hD hS => ?_)
            have hP : va_P D vwCl [(hp, .inr (3, [.ref sg, .int (iz (((n + (ap_N 8 w - i) : Nat) : Int) + 1))])), (sg, .inl (T 3, 80, .inl (zA (zup (apP w P n (ap_N 8 w) (ap_N 8 w - i)) (n + (ap_N 8 w - i)) ((((w / 256 ^ (i - 1)) % 256) : Nat) : Int)))))] H := hP
            have hD : va_D A [(hp, .inr (3, [.ref sg, .int (iz (((n + (ap_N 8 w - i) : Nat) : Int) + 1))])), (sg, .inl (T 3, 80, .inl (zA (zup (apP w P n (ap_N 8 w) (ap_N 8 w - i)) (n + (ap_N 8 w - i)) ((((w / 256 ^ (i - 1)) % 256) : Nat) : Int)))))] := hD
            refine kz_iinc (b := ((i : Nat) : Int) - 1 - 1) (lv' := [(6, .int (iz (((i : Nat) : Int) - 1 - 1))), (0, .ref hp), (1, .long (lN w))]) hx hb dX3_append_134 hl (k := 2) rfl (by omega) (by decide) rfl (fun ls hl => ?_)
            refine lv_goto (tgt := 97) hx hb dX3_append_137 (by decide) ?_
            have hl : lv_has ls 7 [(6, .int (iz (((i - 1 : Nat) : Int) - 1))), (0, .ref hp), (1, .long (lN w))] := by rw [← (show (((i : Nat) : Int) - 1 - 1 : Int) = ((i - 1 : Nat) : Int) - 1 from (by omega))]; exact hl
            have hZ : (((n + (ap_N 8 w - i) : Nat) : Int) + 1 : Int) = ((n + (ap_N 8 w - (i - 1)) : Nat) : Int) := (by omega)
            have hP : va_P D vwCl [(hp, .inr (3, [.ref sg, .int (iz (((n + (ap_N 8 w - (i - 1)) : Nat) : Int)))])), (sg, .inl (T 3, 80, .inl (zA (zup (apP w P n (ap_N 8 w) (ap_N 8 w - i)) (n + (ap_N 8 w - i)) ((((w / 256 ^ (i - 1)) % 256) : Nat) : Int)))))] H := by rw [← hZ]; exact hP
            have hD : va_D A [(hp, .inr (3, [.ref sg, .int (iz (((n + (ap_N 8 w - (i - 1)) : Nat) : Int)))])), (sg, .inl (T 3, 80, .inl (zA (zup (apP w P n (ap_N 8 w) (ap_N 8 w - i)) (n + (ap_N 8 w - i)) ((((w / 256 ^ (i - 1)) % 256) : Nat) : Int)))))] := by rw [← hZ]; exact hD
            have hZ : (zup (apP w P n (ap_N 8 w) (ap_N 8 w - i)) (n + (ap_N 8 w - i)) ((((w / 256 ^ (i - 1)) % 256) : Nat) : Int) : Nat → Int) = apP w P n (ap_N 8 w) (ap_N 8 w - (i - 1)) := (apP_s (by omega) hi)
            have hP : va_P D vwCl [(hp, .inr (3, [.ref sg, .int (iz (((n + (ap_N 8 w - (i - 1)) : Nat) : Int)))])), (sg, .inl (T 3, 80, .inl (zA (apP w P n (ap_N 8 w) (ap_N 8 w - (i - 1))))))] H := by rw [← hZ]; exact hP
            have hD : va_D A [(hp, .inr (3, [.ref sg, .int (iz (((n + (ap_N 8 w - (i - 1)) : Nat) : Int)))])), (sg, .inl (T 3, 80, .inl (zA (apP w P n (ap_N 8 w) (ap_N 8 w - (i - 1))))))] := by rw [← hZ]; exact hD
            exact ih97 (i - 1) _ _ _ ⟨(by omega), hP, hD, hS, lv_sub hl [1, 2, 0] rfl⟩ (by omega)
        · have hny : ¬ ap_y w n := fun q => by unfold ap_y at q; omega
          refine lv_bipush (v := iz (-4)) hx hb dX3_append_89 (by decide) ?_
          have hZ : (((n : Nat) : Int) : Int) = ((apL w n : Nat) : Int) := (by rw [apL_n hny])
          have hP : va_P D vwCl [(hp, .inr (3, [.ref sg, .int (iz (((apL w n : Nat) : Int)))])), (sg, .inl (T 3, 80, .inl (zA P)))] H := by rw [← hZ]; exact hP
          have hD : va_D A [(hp, .inr (3, [.ref sg, .int (iz (((apL w n : Nat) : Int)))])), (sg, .inl (T 3, 80, .inl (zA P)))] := by rw [← hZ]; exact hD
          have hZ : (P : Nat → Int) = apS w P n := (apS_n hny).symm
          have hP : va_P D vwCl [(hp, .inr (3, [.ref sg, .int (iz (((apL w n : Nat) : Int)))])), (sg, .inl (T 3, 80, .inl (zA (apS w P n))))] H := by rw [← hZ]; exact hP
          have hD : va_D A [(hp, .inr (3, [.ref sg, .int (iz (((apL w n : Nat) : Int)))])), (sg, .inl (T 3, 80, .inl (zA (apS w P n))))] := by rw [← hZ]; exact hD
          exact W.iret hx hb hr (fun t ht hW => ⟨⟨_, (), rfl, (congrArg iz (by unfold ap_r; rw [if_neg (by omega), if_pos (by omega)])), by show va_P _ _ _ t.heap; rw [ht]; exact hP⟩, hS.F ht⟩) hS.2.2 dX3_append_91
      · have hbad : ap_t w = -2 := ap_tb (Or.inr (Or.inr (by rw [← hvw]; omega)))
        have hny : ¬ ap_y w n := fun q => by unfold ap_y at q; omega
        refine lv_bipush (v := iz (-2)) hx hb dX3_append_75 (by decide) ?_
        have hZ : (((n : Nat) : Int) : Int) = ((apL w n : Nat) : Int) := (by rw [apL_n hny])
        have hP : va_P D vwCl [(hp, .inr (3, [.ref sg, .int (iz (((apL w n : Nat) : Int)))])), (sg, .inl (T 3, 80, .inl (zA P)))] H := by rw [← hZ]; exact hP
        have hD : va_D A [(hp, .inr (3, [.ref sg, .int (iz (((apL w n : Nat) : Int)))])), (sg, .inl (T 3, 80, .inl (zA P)))] := by rw [← hZ]; exact hD
        have hZ : (P : Nat → Int) = apS w P n := (apS_n hny).symm
        have hP : va_P D vwCl [(hp, .inr (3, [.ref sg, .int (iz (((apL w n : Nat) : Int)))])), (sg, .inl (T 3, 80, .inl (zA (apS w P n))))] H := by rw [← hZ]; exact hP
        have hD : va_D A [(hp, .inr (3, [.ref sg, .int (iz (((apL w n : Nat) : Int)))])), (sg, .inl (T 3, 80, .inl (zA (apS w P n))))] := by rw [← hZ]; exact hD
        exact W.iret hx hb hr (fun t ht hW => ⟨⟨_, (), rfl, (congrArg iz (by unfold ap_r; rw [if_pos (by omega)])), by show va_P _ _ _ t.heap; rw [ht]; exact hP⟩, hS.F ht⟩) hS.2.2 dX3_append_77
  · refine lv_lload hx hb dX3_append_11 (lv_at hl 3 rfl) ?_
    refine lv_ldc2 (v := lN 255) hx hb hown w3 dX3_append_13 ?_
    refine kz_land hx hb (by omega) dX3_append_16 ?_
    refine lv_lconst (v := lN 0) hx hb dX3_append_17 (by decide) ?_
    refine kz_lcmp hx hb (by omega) (by omega) dX3_append_18 ?_
    have hc18 := ncmp_spec (v % 256) 0
    refine kz_if_eq (tgt := 64) hx hb dX3_append_19 (by decide) (by omega) (fun c19 => ?_) (fun c19 => ?_)
    · have hnn : k = ap_N 8 w := by have := ap_Nz (k := 8 - k) (v := v) (by omega); omega
      have hg : ap_G 8 w = true := by rw [hG, ap_Gz (by omega)]
      subst hnn
      have hl : lv_has ls 7 [(0, .ref hp), (1, .long (lN w)), (3, .int (iz (((ap_N 8 w : Nat) : Int)))), (4, .long (lN v))] := hl
      refine lv_iload_n hx hb dX3_append_64 rfl (lv_at hl 2 rfl) ?_
      refine kz_if_eq (tgt := 75) hx hb dX3_append_65 (by decide) (by omega) (fun c65 => ?_) (fun c65 => ?_)
      · have hbad : ap_t w = -2 := ap_tb (Or.inr (Or.inl (by omega)))
        have hny : ¬ ap_y w n := fun q => by unfold ap_y at q; omega
        refine lv_bipush (v := iz (-2)) hx hb dX3_append_75 (by decide) ?_
        have hZ : (((n : Nat) : Int) : Int) = ((apL w n : Nat) : Int) := (by rw [apL_n hny])
        have hP : va_P D vwCl [(hp, .inr (3, [.ref sg, .int (iz (((apL w n : Nat) : Int)))])), (sg, .inl (T 3, 80, .inl (zA P)))] H := by rw [← hZ]; exact hP
        have hD : va_D A [(hp, .inr (3, [.ref sg, .int (iz (((apL w n : Nat) : Int)))])), (sg, .inl (T 3, 80, .inl (zA P)))] := by rw [← hZ]; exact hD
        have hZ : (P : Nat → Int) = apS w P n := (apS_n hny).symm
        have hP : va_P D vwCl [(hp, .inr (3, [.ref sg, .int (iz (((apL w n : Nat) : Int)))])), (sg, .inl (T 3, 80, .inl (zA (apS w P n))))] H := by rw [← hZ]; exact hP
        have hD : va_D A [(hp, .inr (3, [.ref sg, .int (iz (((apL w n : Nat) : Int)))])), (sg, .inl (T 3, 80, .inl (zA (apS w P n))))] := by rw [← hZ]; exact hD
        exact W.iret hx hb hr (fun t ht hW => ⟨⟨_, (), rfl, (congrArg iz (by unfold ap_r; rw [if_pos (by omega)])), by show va_P _ _ _ t.heap; rw [ht]; exact hP⟩, hS.F ht⟩) hS.2.2 dX3_append_77
      · refine lv_lload hx hb dX3_append_68 (lv_at hl 3 rfl) ?_
        refine lv_lconst (v := lN 0) hx hb dX3_append_70 (by decide) ?_
        refine kz_lcmp hx hb (by omega) (by omega) dX3_append_71 ?_
        have hc71 := ncmp_spec v 0
        refine kz_if_eq (tgt := 78) hx hb dX3_append_72 (by decide) (by omega) (fun c72 => ?_) (fun c72 => ?_)
        · have ht2 : ap_t w = (ap_N 8 w : Int) := ap_to hg (by omega) (by rw [← hvw]; omega)
          refine lv_aload_n hx hb dX3_append_78 rfl (lv_at hl 0 rfl) ?_
          refine va_get (D := D) (ci := 3) (C := RX3) (T := TX3) (N := 2) hx hb hts w1 hown hK.1 hP 0 rfl rfl 1 (by decide) w0 (fun _ h9 => h9) rfl dX3_append_79 ?_
          refine lv_iload_n hx hb dX3_append_82 rfl (lv_at hl 2 rfl) ?_
          refine kz_add hx hb dX3_append_83 ?_
          refine lv_bipush (v := iz (80)) hx hb dX3_append_84 (by decide) ?_
          refine kz_icmp_le (tgt := 92) hx hb dX3_append_86 (by decide) (by omega) (by omega) (fun c86 => ?_) (fun c86 => ?_)
          · have hyy : ap_y w n := by unfold ap_y; omega
            refine lv_iload_n hx hb dX3_append_92 rfl (lv_at hl 2 rfl) ?_
            refine lv_iconst (v := iz (1)) hx hb dX3_append_93 (by decide) ?_
            refine kz_sub hx hb dX3_append_94 ?_
            refine lv_istore (lv' := [(6, .int (iz (((ap_N 8 w : Nat) : Int) - 1))), (0, .ref hp), (1, .long (lN w)), (3, .int (iz (((ap_N 8 w : Nat) : Int)))), (4, .long (lN v))]) hx hb dX3_append_95 hl (by decide) rfl (fun ls hl => ?_)
            have hZ : (((n : Nat) : Int) : Int) = ((n + (ap_N 8 w - (ap_N 8 w)) : Nat) : Int) := (by omega)
            have hP : va_P D vwCl [(hp, .inr (3, [.ref sg, .int (iz (((n + (ap_N 8 w - (ap_N 8 w)) : Nat) : Int)))])), (sg, .inl (T 3, 80, .inl (zA P)))] H := by rw [← hZ]; exact hP
            have hD : va_D A [(hp, .inr (3, [.ref sg, .int (iz (((n + (ap_N 8 w - (ap_N 8 w)) : Nat) : Int)))])), (sg, .inl (T 3, 80, .inl (zA P)))] := by rw [← hZ]; exact hD
            have hZ : (P : Nat → Int) = apP w P n (ap_N 8 w) (ap_N 8 w - (ap_N 8 w)) := (apP_0 _ _ _ _)
            have hP : va_P D vwCl [(hp, .inr (3, [.ref sg, .int (iz (((n + (ap_N 8 w - (ap_N 8 w)) : Nat) : Int)))])), (sg, .inl (T 3, 80, .inl (zA (apP w P n (ap_N 8 w) (ap_N 8 w - (ap_N 8 w))))))] H := by rw [← hZ]; exact hP
            have hD : va_D A [(hp, .inr (3, [.ref sg, .int (iz (((n + (ap_N 8 w - (ap_N 8 w)) : Nat) : Int)))])), (sg, .inl (T 3, 80, .inl (zA (apP w P n (ap_N 8 w) (ap_N 8 w - (ap_N 8 w))))))] := by rw [← hZ]; exact hD
            refine kz_loopW1 (pc := 97) (I := fun (i : Nat) (H : Heap) (locs : List Loc) (ls : Array Slot) => (i ≤ ap_N 8 w) ∧ va_P D vwCl [(hp, .inr (3, [.ref sg, .int (iz (((n + (ap_N 8 w - i) : Nat) : Int)))])), (sg, .inl (T 3, 80, .inl (zA (apP w P n (ap_N 8 w) (ap_N 8 w - i)))))] H ∧ va_D A [(hp, .inr (3, [.ref sg, .int (iz (((n + (ap_N 8 w - i) : Nat) : Int)))])), (sg, .inl (T 3, 80, .inl (zA (apP w P n (ap_N 8 w) (ap_N 8 w - i)))))] ∧ va_S A s.heap H locs ∧ lv_has ls 7 [(0, .ref hp), (1, .long (lN w)), (6, .int (iz (((i : Nat) : Int) - 1)))]) (μ := fun (i : Nat) => i) (ap_N 8 w) ⟨(by omega), hP, hD, hS, lv_sub hl [1, 2, 0] rfl⟩ ?_
            rintro i H locs ls ⟨hi, hP, hD, hS, hl⟩ ih97
            refine lv_iload hx hb dX3_append_97 (lv_at hl 2 rfl) ?_
            refine kz_if_lt (tgt := 140) hx hb dX3_append_99 (by decide) (by omega) (fun c99 => ?_) (fun c99 => ?_)
            · have hnn : i = 0 := by omega
              subst hnn
              have hl : lv_has ls 7 [(0, .ref hp), (1, .long (lN w)), (6, .int (iz (((0 : Nat) : Int) - 1)))] := hl
              refine lv_aload_n hx hb dX3_append_140 rfl (lv_at hl 0 rfl) ?_
              refine va_get (D := D) (ci := 3) (C := RX3) (T := TX3) (N := 2) hx hb hts w1 hown hK.1 hP 0 rfl rfl 1 (by decide) w0 (fun _ h9 => h9) rfl dX3_append_141 ?_
              have hZ : (((n + (ap_N 8 w - 0) : Nat) : Int) : Int) = ((apL w n : Nat) : Int) := (by rw [apL_y hyy]; omega)
              have hP : va_P D vwCl [(hp, .inr (3, [.ref sg, .int (iz (((apL w n : Nat) : Int)))])), (sg, .inl (T 3, 80, .inl (zA (apP w P n (ap_N 8 w) (ap_N 8 w - 0)))))] H := by rw [← hZ]; exact hP
              have hD : va_D A [(hp, .inr (3, [.ref sg, .int (iz (((apL w n : Nat) : Int)))])), (sg, .inl (T 3, 80, .inl (zA (apP w P n (ap_N 8 w) (ap_N 8 w - 0)))))] := by rw [← hZ]; exact hD
              have hZ : (apP w P n (ap_N 8 w) (ap_N 8 w - 0) : Nat → Int) = apS w P n := (apS_y hyy).symm
              have hP : va_P D vwCl [(hp, .inr (3, [.ref sg, .int (iz (((apL w n : Nat) : Int)))])), (sg, .inl (T 3, 80, .inl (zA (apS w P n))))] H := by rw [← hZ]; exact hP
              have hD : va_D A [(hp, .inr (3, [.ref sg, .int (iz (((apL w n : Nat) : Int)))])), (sg, .inl (T 3, 80, .inl (zA (apS w P n))))] := by rw [← hZ]; exact hD
              exact W.iret hx hb hr (fun t ht hW => ⟨⟨_, (), rfl, (congrArg iz (by unfold ap_r; rw [if_neg (by omega), if_neg (by omega)]; omega)), by show va_P _ _ _ t.heap; rw [ht]; exact hP⟩, hS.F ht⟩) hS.2.2 dX3_append_144
            · refine lv_aload_n hx hb dX3_append_102 rfl (lv_at hl 0 rfl) ?_
              refine va_get (D := D) (ci := 3) (C := RX3) (T := TX3) (N := 2) hx hb hts w1 hown hK.1 hP 0 rfl rfl 0 (by decide) w2 (fun _ h9 => h9) rfl dX3_append_103 ?_
              refine lv_aload_n hx hb dX3_append_106 rfl (lv_at hl 0 rfl) ?_
              refine va_get (D := D) (ci := 3) (C := RX3) (T := TX3) (N := 2) hx hb hts w1 hown hK.1 hP 0 rfl rfl 1 (by decide) w0 (fun _ h9 => h9) rfl dX3_append_107 ?_
              refine lv_lload_n hx hb dX3_append_110 rfl (lv_at hl 1 rfl) ?_
              refine lv_bipush (v := iz (8)) hx hb dX3_append_111 (by decide) ?_
              refine lv_iload hx hb dX3_append_113 (lv_at hl 2 rfl) ?_
              refine kz_mul hx hb dX3_append_115 ?_
              refine kz_top (y := 8 * ((i - 1 : Nat) : Int)) (by omega) ?_
              refine kz_lushr (i := i - 1) hx hb (by omega) (by omega) dX3_append_116 ?_
              refine lv_ldc2 (v := lN 255) hx hb hown w3 dX3_append_117 ?_
              refine kz_land hx hb (Nat.lt_of_le_of_lt (Nat.div_le_self _ _) hw) dX3_append_120 ?_
              refine lv_l2i hx hb dX3_append_121 (bt_l2i ((w / 256 ^ (i - 1)) % 256)) ?_
              refine lv_i2c hx hb dX3_append_122 (bt_i2c (by omega)) ?_
              refine kz_cast hx hb hK hP hD hS (1) rfl (n + (ap_N 8 w - i)) (by omega) (by omega) (by omega) (by omega) dX3_append_123 (fun H locs hP hD hS => ?_)
              have hP : va_P D vwCl [(hp, .inr (3, [.ref sg, .int (iz (((n + (ap_N 8 w - i) : Nat) : Int)))])), (sg, .inl (T 3, 80, .inl (zA (zup (apP w P n (ap_N 8 w) (ap_N 8 w - i)) (n + (ap_N 8 w - i)) ((((w / 256 ^ (i - 1)) % 256) : Nat) : Int)))))] H := hP
              have hD : va_D A [(hp, .inr (3, [.ref sg, .int (iz (((n + (ap_N 8 w - i) : Nat) : Int)))])), (sg, .inl (T 3, 80, .inl (zA (zup (apP w P n (ap_N 8 w) (ap_N 8 w - i)) (n + (ap_N 8 w - i)) ((((w / 256 ^ (i - 1)) % 256) : Nat) : Int)))))] := hD
              refine lv_aload_n hx hb dX3_append_124 rfl (lv_at hl 0 rfl) ?_
              refine lv_dup hx hb dX3_append_125 rfl ?_
              refine va_get (D := D) (ci := 3) (C := RX3) (T := TX3) (N := 2) hx hb hts w1 hown hK.1 hP 0 rfl rfl 1 (by decide) w0 (fun _ h9 => h9) rfl dX3_append_126 ?_
              refine lv_iconst (v := iz (1)) hx hb dX3_append_129 (by decide) ?_
              refine kz_add hx hb dX3_append_130 ?_
              refine va_put (D := D) (ci := 3) (v := .int (iz (((n + (ap_N 8 w - i) : Nat) : Int) + 1))) (ty := .int) (C := RX3) (T := TX3) (N := 2) hx hb hts w1 tyX3 tyX3_ok nmX3 hown hK.1 hP hD hS 0 rfl rfl 1 (by decide) w0 (fun _ h9 => h9) rfl (by decide +kernel) rfl rfl (Nat.le_of_ble_eq_true rfl) dX3_append_131 (fun H locs hP hD hS => ?_)
              have hP : va_P D vwCl [(hp, .inr (3, [.ref sg, .int (iz (((n + (ap_N 8 w - i) : Nat) : Int) + 1))])), (sg, .inl (T 3, 80, .inl (zA (zup (apP w P n (ap_N 8 w) (ap_N 8 w - i)) (n + (ap_N 8 w - i)) ((((w / 256 ^ (i - 1)) % 256) : Nat) : Int)))))] H := hP
              have hD : va_D A [(hp, .inr (3, [.ref sg, .int (iz (((n + (ap_N 8 w - i) : Nat) : Int) + 1))])), (sg, .inl (T 3, 80, .inl (zA (zup (apP w P n (ap_N 8 w) (ap_N 8 w - i)) (n + (ap_N 8 w - i)) ((((w / 256 ^ (i - 1)) % 256) : Nat) : Int)))))] := hD
              refine kz_iinc (b := ((i : Nat) : Int) - 1 - 1) (lv' := [(6, .int (iz (((i : Nat) : Int) - 1 - 1))), (0, .ref hp), (1, .long (lN w))]) hx hb dX3_append_134 hl (k := 2) rfl (by omega) (by decide) rfl (fun ls hl => ?_)
              refine lv_goto (tgt := 97) hx hb dX3_append_137 (by decide) ?_
              have hl : lv_has ls 7 [(6, .int (iz (((i - 1 : Nat) : Int) - 1))), (0, .ref hp), (1, .long (lN w))] := by rw [← (show (((i : Nat) : Int) - 1 - 1 : Int) = ((i - 1 : Nat) : Int) - 1 from (by omega))]; exact hl
              have hZ : (((n + (ap_N 8 w - i) : Nat) : Int) + 1 : Int) = ((n + (ap_N 8 w - (i - 1)) : Nat) : Int) := (by omega)
              have hP : va_P D vwCl [(hp, .inr (3, [.ref sg, .int (iz (((n + (ap_N 8 w - (i - 1)) : Nat) : Int)))])), (sg, .inl (T 3, 80, .inl (zA (zup (apP w P n (ap_N 8 w) (ap_N 8 w - i)) (n + (ap_N 8 w - i)) ((((w / 256 ^ (i - 1)) % 256) : Nat) : Int)))))] H := by rw [← hZ]; exact hP
              have hD : va_D A [(hp, .inr (3, [.ref sg, .int (iz (((n + (ap_N 8 w - (i - 1)) : Nat) : Int)))])), (sg, .inl (T 3, 80, .inl (zA (zup (apP w P n (ap_N 8 w) (ap_N 8 w - i)) (n + (ap_N 8 w - i)) ((((w / 256 ^ (i - 1)) % 256) : Nat) : Int)))))] := by rw [← hZ]; exact hD
              have hZ : (zup (apP w P n (ap_N 8 w) (ap_N 8 w - i)) (n + (ap_N 8 w - i)) ((((w / 256 ^ (i - 1)) % 256) : Nat) : Int) : Nat → Int) = apP w P n (ap_N 8 w) (ap_N 8 w - (i - 1)) := (apP_s (by omega) hi)
              have hP : va_P D vwCl [(hp, .inr (3, [.ref sg, .int (iz (((n + (ap_N 8 w - (i - 1)) : Nat) : Int)))])), (sg, .inl (T 3, 80, .inl (zA (apP w P n (ap_N 8 w) (ap_N 8 w - (i - 1))))))] H := by rw [← hZ]; exact hP
              have hD : va_D A [(hp, .inr (3, [.ref sg, .int (iz (((n + (ap_N 8 w - (i - 1)) : Nat) : Int)))])), (sg, .inl (T 3, 80, .inl (zA (apP w P n (ap_N 8 w) (ap_N 8 w - (i - 1))))))] := by rw [← hZ]; exact hD
              exact ih97 (i - 1) _ _ _ ⟨(by omega), hP, hD, hS, lv_sub hl [1, 2, 0] rfl⟩ (by omega)
          · have hny : ¬ ap_y w n := fun q => by unfold ap_y at q; omega
            refine lv_bipush (v := iz (-4)) hx hb dX3_append_89 (by decide) ?_
            have hZ : (((n : Nat) : Int) : Int) = ((apL w n : Nat) : Int) := (by rw [apL_n hny])
            have hP : va_P D vwCl [(hp, .inr (3, [.ref sg, .int (iz (((apL w n : Nat) : Int)))])), (sg, .inl (T 3, 80, .inl (zA P)))] H := by rw [← hZ]; exact hP
            have hD : va_D A [(hp, .inr (3, [.ref sg, .int (iz (((apL w n : Nat) : Int)))])), (sg, .inl (T 3, 80, .inl (zA P)))] := by rw [← hZ]; exact hD
            have hZ : (P : Nat → Int) = apS w P n := (apS_n hny).symm
            have hP : va_P D vwCl [(hp, .inr (3, [.ref sg, .int (iz (((apL w n : Nat) : Int)))])), (sg, .inl (T 3, 80, .inl (zA (apS w P n))))] H := by rw [← hZ]; exact hP
            have hD : va_D A [(hp, .inr (3, [.ref sg, .int (iz (((apL w n : Nat) : Int)))])), (sg, .inl (T 3, 80, .inl (zA (apS w P n))))] := by rw [← hZ]; exact hD
            exact W.iret hx hb hr (fun t ht hW => ⟨⟨_, (), rfl, (congrArg iz (by unfold ap_r; rw [if_neg (by omega), if_pos (by omega)])), by show va_P _ _ _ t.heap; rw [ht]; exact hP⟩, hS.F ht⟩) hS.2.2 dX3_append_91
        · have hbad : ap_t w = -2 := ap_tb (Or.inr (Or.inr (by rw [← hvw]; omega)))
          have hny : ¬ ap_y w n := fun q => by unfold ap_y at q; omega
          refine lv_bipush (v := iz (-2)) hx hb dX3_append_75 (by decide) ?_
          have hZ : (((n : Nat) : Int) : Int) = ((apL w n : Nat) : Int) := (by rw [apL_n hny])
          have hP : va_P D vwCl [(hp, .inr (3, [.ref sg, .int (iz (((apL w n : Nat) : Int)))])), (sg, .inl (T 3, 80, .inl (zA P)))] H := by rw [← hZ]; exact hP
          have hD : va_D A [(hp, .inr (3, [.ref sg, .int (iz (((apL w n : Nat) : Int)))])), (sg, .inl (T 3, 80, .inl (zA P)))] := by rw [← hZ]; exact hD
          have hZ : (P : Nat → Int) = apS w P n := (apS_n hny).symm
          have hP : va_P D vwCl [(hp, .inr (3, [.ref sg, .int (iz (((apL w n : Nat) : Int)))])), (sg, .inl (T 3, 80, .inl (zA (apS w P n))))] H := by rw [← hZ]; exact hP
          have hD : va_D A [(hp, .inr (3, [.ref sg, .int (iz (((apL w n : Nat) : Int)))])), (sg, .inl (T 3, 80, .inl (zA (apS w P n))))] := by rw [← hZ]; exact hD
          exact W.iret hx hb hr (fun t ht hW => ⟨⟨_, (), rfl, (congrArg iz (by unfold ap_r; rw [if_pos (by omega)])), by show va_P _ _ _ t.heap; rw [ht]; exact hP⟩, hS.F ht⟩) hS.2.2 dX3_append_77
    · refine lv_lload hx hb dX3_append_22 (lv_at hl 3 rfl) ?_
      refine lv_ldc2 (v := lN 255) hx hb hown w3 dX3_append_24 ?_
      refine kz_land hx hb (by omega) dX3_append_27 ?_
      refine lv_ldc2 (v := lN 33) hx hb hown w4 dX3_append_28 ?_
      refine kz_lcmp hx hb (by omega) (by omega) dX3_append_31 ?_
      have hc31 := ncmp_spec (v % 256) 33
      refine kz_if_lt (tgt := 48) hx hb dX3_append_32 (by decide) (by omega) (fun c32 => ?_) (fun c32 => ?_)
      · have hbad : ap_t w = -2 := ap_tb (Or.inl (by rw [hG, show 8 - k = (7 - k) + 1 by omega]; exact ap_Gb (by omega) (by omega)))
        have hny : ¬ ap_y w n := fun q => by unfold ap_y at q; omega
        refine lv_bipush (v := iz (-2)) hx hb dX3_append_48 (by decide) ?_
        have hZ : (((n : Nat) : Int) : Int) = ((apL w n : Nat) : Int) := (by rw [apL_n hny])
        have hP : va_P D vwCl [(hp, .inr (3, [.ref sg, .int (iz (((apL w n : Nat) : Int)))])), (sg, .inl (T 3, 80, .inl (zA P)))] H := by rw [← hZ]; exact hP
        have hD : va_D A [(hp, .inr (3, [.ref sg, .int (iz (((apL w n : Nat) : Int)))])), (sg, .inl (T 3, 80, .inl (zA P)))] := by rw [← hZ]; exact hD
        have hZ : (P : Nat → Int) = apS w P n := (apS_n hny).symm
        have hP : va_P D vwCl [(hp, .inr (3, [.ref sg, .int (iz (((apL w n : Nat) : Int)))])), (sg, .inl (T 3, 80, .inl (zA (apS w P n))))] H := by rw [← hZ]; exact hP
        have hD : va_D A [(hp, .inr (3, [.ref sg, .int (iz (((apL w n : Nat) : Int)))])), (sg, .inl (T 3, 80, .inl (zA (apS w P n))))] := by rw [← hZ]; exact hD
        exact W.iret hx hb hr (fun t ht hW => ⟨⟨_, (), rfl, (congrArg iz (by unfold ap_r; rw [if_pos (by omega)])), by show va_P _ _ _ t.heap; rw [ht]; exact hP⟩, hS.F ht⟩) hS.2.2 dX3_append_50
      · refine lv_lload hx hb dX3_append_35 (lv_at hl 3 rfl) ?_
        refine lv_ldc2 (v := lN 255) hx hb hown w3 dX3_append_37 ?_
        refine kz_land hx hb (by omega) dX3_append_40 ?_
        refine lv_ldc2 (v := lN 126) hx hb hown w5 dX3_append_41 ?_
        refine kz_lcmp hx hb (by omega) (by omega) dX3_append_44 ?_
        have hc44 := ncmp_spec (v % 256) 126
        refine kz_if_le (tgt := 51) hx hb dX3_append_45 (by decide) (by omega) (fun c45 => ?_) (fun c45 => ?_)
        · refine kz_iinc (b := ((k + 1 : Nat) : Int)) (lv' := [(3, .int (iz (((k + 1 : Nat) : Int)))), (0, .ref hp), (1, .long (lN w)), (4, .long (lN v))]) hx hb dX3_append_51 hl (k := 2) rfl (by omega) (by decide) rfl (fun ls hl => ?_)
          refine lv_lload hx hb dX3_append_54 (lv_at hl 3 rfl) ?_
          refine lv_bipush (v := iz (8)) hx hb dX3_append_56 (by decide) ?_
          refine kz_lushr8 hx hb (by omega) dX3_append_58 ?_
          refine lv_lstore (lv' := [(4, .long (lN (v / 256))), (3, .int (iz (((k + 1 : Nat) : Int)))), (0, .ref hp), (1, .long (lN w))]) hx hb dX3_append_59 hl (by decide) rfl (fun ls hl => ?_)
          refine lv_goto (tgt := 5) hx hb dX3_append_61 (by decide) ?_
          exact ih5 (k + 1) (v / 256) _ _ _ ⟨(by omega), (by rw [hvw, Nat.div_div_eq_div_mul, Nat.pow_succ]), (by omega), (by rw [hN, show 8 - k = (8 - (k + 1)) + 1 by omega, ap_Ns (by omega)]; omega), (by rw [hG, show 8 - k = (8 - (k + 1)) + 1 by omega, ap_Gs (by omega) (by omega)]), hP, hD, hS, lv_sub hl [2, 3, 1, 0] rfl⟩ (by omega)
        · have hbad : ap_t w = -2 := ap_tb (Or.inl (by rw [hG, show 8 - k = (7 - k) + 1 by omega]; exact ap_Gb (by omega) (by omega)))
          have hny : ¬ ap_y w n := fun q => by unfold ap_y at q; omega
          refine lv_bipush (v := iz (-2)) hx hb dX3_append_48 (by decide) ?_
          have hZ : (((n : Nat) : Int) : Int) = ((apL w n : Nat) : Int) := (by rw [apL_n hny])
          have hP : va_P D vwCl [(hp, .inr (3, [.ref sg, .int (iz (((apL w n : Nat) : Int)))])), (sg, .inl (T 3, 80, .inl (zA P)))] H := by rw [← hZ]; exact hP
          have hD : va_D A [(hp, .inr (3, [.ref sg, .int (iz (((apL w n : Nat) : Int)))])), (sg, .inl (T 3, 80, .inl (zA P)))] := by rw [← hZ]; exact hD
          have hZ : (P : Nat → Int) = apS w P n := (apS_n hny).symm
          have hP : va_P D vwCl [(hp, .inr (3, [.ref sg, .int (iz (((apL w n : Nat) : Int)))])), (sg, .inl (T 3, 80, .inl (zA (apS w P n))))] H := by rw [← hZ]; exact hP
          have hD : va_D A [(hp, .inr (3, [.ref sg, .int (iz (((apL w n : Nat) : Int)))])), (sg, .inl (T 3, 80, .inl (zA (apS w P n))))] := by rw [← hZ]; exact hD
          exact W.iret hx hb hr (fun t ht hW => ⟨⟨_, (), rfl, (congrArg iz (by unfold ap_r; rw [if_pos (by omega)])), by show va_P _ _ _ t.heap; rw [ht]; exact hP⟩, hS.F ht⟩) hS.2.2 dX3_append_50
