set_option maxHeartbeats 4000000 in
set_option maxRecDepth 100000 in
theorem c_J6_bitCount_0f7a4 (l : Launch) (D : va_G) (T : Nat → ClassId) (w : Nat) (hw : w < 16777216) : Met l yJ6_bitCount_0f7a4 wsJ6_bitCount_0f7a4 ({ frames := 0, cells := 0, slots := 0, locals := 0 }) (kPc D T [.int (iz (((w : Nat) : Int)))] (va_P D vwCl [])) (vp_Si (fun r : Int32 => r = iz (((pcB w : Nat) : Int)))) 0 0 (fun _ => False) := by
  refine Met.ofW (cc := cJ6_bitCount_0f7a4) (maxL := 1) (ret := (some .int)) (by decide) rfl ?_
  intro p e s m args below meth c s₁ B hml hv
  obtain ⟨rfl, hK, hP⟩ := hv
  have hx := B.exec
  have hb := B.bytes
  have hr := B.returns
  have hts := atoms_spec (ws := wsJ6_bitCount_0f7a4) B.pre
  have hown : s.vm.findClass RJ6 = some m.cls := findClass_of_methodNamed B.named
  have hlocks := B.notSynchronized
  have w0 := hts (.constant RJ6 265 (1431655765)) (List.mem_of_getElem? (i := 1) rfl)
  have w1 := hts (.constant RJ6 266 (858993459)) (List.mem_of_getElem? (i := 2) rfl)
  have w2 := hts (.constant RJ6 267 (252645135)) (List.mem_of_getElem? (i := 3) rfl)
  have hP : va_P D vwCl [] s.heap := hP
  have hl := lv_entry ([.int (iz (((w : Nat) : Int)))]) (n := 1) (Nat.le_of_ble_eq_true rfl)
  rw [lg_entry_eq]
  generalize (lg_sl ([.int (iz (((w : Nat) : Int)))]) ++ List.replicate (1 - (lg_sl ([.int (iz (((w : Nat) : Int)))])).length) Slot.unset).toArray = ls at hl ⊢
  have hl : lv_has ls 1 [(0, .int (iz (((w : Nat) : Int))))] := hl
  have h1 : (w / 2 &&& 1431655765) ≤ w / 2 := Nat.and_le_left
  have h2 : pc1 w ≤ w := Nat.sub_le _ _
  have h3 : (pc1 w &&& 858993459) ≤ pc1 w := Nat.and_le_left
  have h4 : (pc1 w / 4 &&& 858993459) ≤ pc1 w / 4 := Nat.and_le_left
  have h5 : pc2 (pc1 w) = (pc1 w &&& 858993459) + (pc1 w / 4 &&& 858993459) := rfl
  have h6 : pc3 (pc2 (pc1 w)) ≤ pc2 (pc1 w) + pc2 (pc1 w) / 16 := Nat.and_le_left
  have h7 : pc4 (pc3 (pc2 (pc1 w))) = pc3 (pc2 (pc1 w)) + pc3 (pc2 (pc1 w)) / 256 := rfl
  have h8 : pc5 (pc4 (pc3 (pc2 (pc1 w)))) = pc4 (pc3 (pc2 (pc1 w))) + pc4 (pc3 (pc2 (pc1 w))) / 65536 := rfl
  have h0 : pc1 w = w - (w / 2 &&& 1431655765) := rfl
  refine lv_iload_n hx hb dJ6_bitCount_0f7a4_0 rfl (lv_at hl 0 rfl) ?_
  refine lv_iload_n hx hb dJ6_bitCount_0f7a4_1 rfl (lv_at hl 0 rfl) ?_
  refine lv_iconst (v := iz (1)) hx hb dJ6_bitCount_0f7a4_2 (by decide) ?_
  refine kz_top (y := ((1 : Nat) : Int)) rfl ?_
  refine kz_iushr (k := 1) hx hb (by omega) (by decide) dJ6_bitCount_0f7a4_3 ?_
  refine kz_top (y := ((w / 2 : Nat) : Int)) rfl ?_
  refine lv_ldcw (v := (1431655765 : Int32)) hx hb hown w0 dJ6_bitCount_0f7a4_4 ?_
  refine W.eq (g2 := F0 m 7 ls (.int (iz (1431655765)) :: [.int (iz (((w / 2 : Nat) : Int))), .int (iz (((w : Nat) : Int)))])) (by rw [show iz (1431655765) = (1431655765 : Int32) from by decide]) ?_
  refine kz_top (y := ((1431655765 : Nat) : Int)) rfl ?_
  refine kz_iand hx hb (by omega) (by omega) dJ6_bitCount_0f7a4_7 ?_
  refine kz_sub hx hb dJ6_bitCount_0f7a4_8 ?_
  refine kz_top (y := ((pc1 w : Nat) : Int)) (by omega) ?_
  refine lv_istore_n (lv' := [(0, .int (iz (((pc1 w : Nat) : Int))))]) hx hb dJ6_bitCount_0f7a4_9 rfl hl (by decide) rfl (fun ls hl => ?_)
  refine lv_iload_n hx hb dJ6_bitCount_0f7a4_10 rfl (lv_at hl 0 rfl) ?_
  refine lv_ldcw (v := (858993459 : Int32)) hx hb hown w1 dJ6_bitCount_0f7a4_11 ?_
  refine W.eq (g2 := F0 m 14 ls (.int (iz (858993459)) :: [.int (iz (((pc1 w : Nat) : Int)))])) (by rw [show iz (858993459) = (858993459 : Int32) from by decide]) ?_
  refine kz_top (y := ((858993459 : Nat) : Int)) rfl ?_
  refine kz_iand hx hb (by omega) (by omega) dJ6_bitCount_0f7a4_14 ?_
  refine lv_iload_n hx hb dJ6_bitCount_0f7a4_15 rfl (lv_at hl 0 rfl) ?_
  refine lv_iconst (v := iz (2)) hx hb dJ6_bitCount_0f7a4_16 (by decide) ?_
  refine kz_top (y := ((2 : Nat) : Int)) rfl ?_
  refine kz_iushr (k := 2) hx hb (by omega) (by decide) dJ6_bitCount_0f7a4_17 ?_
  refine kz_top (y := (((pc1 w) / 4 : Nat) : Int)) rfl ?_
  refine lv_ldcw (v := (858993459 : Int32)) hx hb hown w1 dJ6_bitCount_0f7a4_18 ?_
  refine W.eq (g2 := F0 m 21 ls (.int (iz (858993459)) :: [.int (iz ((((pc1 w) / 4 : Nat) : Int))), .int (iz ((((pc1 w) &&& 858993459 : Nat) : Int)))])) (by rw [show iz (858993459) = (858993459 : Int32) from by decide]) ?_
  refine kz_top (y := ((858993459 : Nat) : Int)) rfl ?_
  refine kz_iand hx hb (by omega) (by omega) dJ6_bitCount_0f7a4_21 ?_
  refine kz_add hx hb dJ6_bitCount_0f7a4_22 ?_
  refine kz_top (y := ((pc2 (pc1 w) : Nat) : Int)) (by omega) ?_
  refine lv_istore_n (lv' := [(0, .int (iz (((pc2 (pc1 w) : Nat) : Int))))]) hx hb dJ6_bitCount_0f7a4_23 rfl hl (by decide) rfl (fun ls hl => ?_)
  refine lv_iload_n hx hb dJ6_bitCount_0f7a4_24 rfl (lv_at hl 0 rfl) ?_
  refine lv_iload_n hx hb dJ6_bitCount_0f7a4_25 rfl (lv_at hl 0 rfl) ?_
  refine lv_iconst (v := iz (4)) hx hb dJ6_bitCount_0f7a4_26 (by decide) ?_
  refine kz_top (y := ((4 : Nat) : Int)) rfl ?_
  refine kz_iushr (k := 4) hx hb (by omega) (by decide) dJ6_bitCount_0f7a4_27 ?_
  refine kz_top (y := (((pc2 (pc1 w)) / 16 : Nat) : Int)) rfl ?_
  refine kz_add hx hb dJ6_bitCount_0f7a4_28 ?_
  refine kz_top (y := ((pc2 (pc1 w) + pc2 (pc1 w) / 16 : Nat) : Int)) (by omega) ?_
  refine lv_ldcw (v := (252645135 : Int32)) hx hb hown w2 dJ6_bitCount_0f7a4_29 ?_
  refine W.eq (g2 := F0 m 32 ls (.int (iz (252645135)) :: [.int (iz (((pc2 (pc1 w) + pc2 (pc1 w) / 16 : Nat) : Int)))])) (by rw [show iz (252645135) = (252645135 : Int32) from by decide]) ?_
  refine kz_top (y := ((252645135 : Nat) : Int)) rfl ?_
  refine kz_iand hx hb (by omega) (by omega) dJ6_bitCount_0f7a4_32 ?_
  refine kz_top (y := ((pc3 (pc2 (pc1 w)) : Nat) : Int)) rfl ?_
  refine lv_istore_n (lv' := [(0, .int (iz (((pc3 (pc2 (pc1 w)) : Nat) : Int))))]) hx hb dJ6_bitCount_0f7a4_33 rfl hl (by decide) rfl (fun ls hl => ?_)
  refine lv_iload_n hx hb dJ6_bitCount_0f7a4_34 rfl (lv_at hl 0 rfl) ?_
  refine lv_iload_n hx hb dJ6_bitCount_0f7a4_35 rfl (lv_at hl 0 rfl) ?_
  refine lv_bipush (v := iz (8)) hx hb dJ6_bitCount_0f7a4_36 (by decide) ?_
  refine kz_top (y := ((8 : Nat) : Int)) rfl ?_
  refine kz_iushr (k := 8) hx hb (by omega) (by decide) dJ6_bitCount_0f7a4_38 ?_
  refine kz_top (y := (((pc3 (pc2 (pc1 w))) / 256 : Nat) : Int)) rfl ?_
  refine kz_add hx hb dJ6_bitCount_0f7a4_39 ?_
  refine kz_top (y := ((pc4 (pc3 (pc2 (pc1 w))) : Nat) : Int)) (by omega) ?_
  refine lv_istore_n (lv' := [(0, .int (iz (((pc4 (pc3 (pc2 (pc1 w))) : Nat) : Int))))]) hx hb dJ6_bitCount_0f7a4_40 rfl hl (by decide) rfl (fun ls hl => ?_)
  refine lv_iload_n hx hb dJ6_bitCount_0f7a4_41 rfl (lv_at hl 0 rfl) ?_
  refine lv_iload_n hx hb dJ6_bitCount_0f7a4_42 rfl (lv_at hl 0 rfl) ?_
  refine lv_bipush (v := iz (16)) hx hb dJ6_bitCount_0f7a4_43 (by decide) ?_
  refine kz_top (y := ((16 : Nat) : Int)) rfl ?_
  refine kz_iushr (k := 16) hx hb (by omega) (by decide) dJ6_bitCount_0f7a4_45 ?_
  refine kz_top (y := (((pc4 (pc3 (pc2 (pc1 w)))) / 65536 : Nat) : Int)) rfl ?_
  refine kz_add hx hb dJ6_bitCount_0f7a4_46 ?_
  refine kz_top (y := ((pc5 (pc4 (pc3 (pc2 (pc1 w)))) : Nat) : Int)) (by omega) ?_
  refine lv_istore_n (lv' := [(0, .int (iz (((pc5 (pc4 (pc3 (pc2 (pc1 w)))) : Nat) : Int))))]) hx hb dJ6_bitCount_0f7a4_47 rfl hl (by decide) rfl (fun ls hl => ?_)
  refine lv_iload_n hx hb dJ6_bitCount_0f7a4_48 rfl (lv_at hl 0 rfl) ?_
  refine lv_bipush (v := iz (63)) hx hb dJ6_bitCount_0f7a4_49 (by decide) ?_
  refine kz_top (y := ((63 : Nat) : Int)) rfl ?_
  refine kz_iand hx hb (by omega) (by omega) dJ6_bitCount_0f7a4_51 ?_
  exact W.iret hx hb hr (fun t ht _ => ⟨_, rfl, rfl, ht⟩) (fun _ h => absurd h List.not_mem_nil) dJ6_bitCount_0f7a4_52
set_option maxHeartbeats 4000000 in
set_option maxRecDepth 100000 in
theorem c_X0_setOf (l : Launch) (D : va_G) (T : Nat → ClassId) (hc : Nat) (a1 : Nat) (a2 : Nat) (a3 : Nat) (a4 : Nat) (a5 : Nat) (a6 : Nat) (a7 : Nat) (a8 : Nat) (h0 : Nat) (F7 : Nat → Int) (hF7 : ∀ r : Nat, r < 24 → -100 ≤ F7 r ∧ F7 r ≤ 100) (tt : Int) (htt : -2147483648 ≤ tt ∧ tt < 2147483648) : Met l yX0_setOf wsX0_setOf ({ frames := 0, cells := 0, slots := 0, locals := 0 }) (kPc D T [.ref hc, .int (iz (tt))] (va_P D vwCl [(hc, .inr (0, [.ref h0, .ref a1, .ref a2, .ref a3, .ref a4, .ref a5, .ref a6, .ref a7, .ref a8])), (a7, .inl (T 0, 24, .inl (zA F7)))])) (vp_Si (fun r : Int32 => r = iz (((sb F7 tt 24 : Nat) : Int)))) 0 0 (fun _ => False) := by
  refine Met.ofW (cc := cX0_setOf) (maxL := 4) (ret := (some .int)) (by decide) rfl ?_
  intro p e s m args below meth c s₁ B hml hv
  obtain ⟨rfl, hK, hP⟩ := hv
  have hx := B.exec
  have hb := B.bytes
  have hr := B.returns
  have hts := atoms_spec (ws := wsX0_setOf) B.pre
  have hown : s.vm.findClass RX0 = some m.cls := findClass_of_methodNamed B.named
  have hlocks := B.notSynchronized
  have w0 := hts (.fieldLink RX0 30 "LakePlant$Course" "trouble" "[I") (List.mem_of_getElem? (i := 1) rfl)
  have w1 : ∀ w ∈ wsX00, w ∈ wsX0_setOf := by decide +kernel
  have hP : va_P D vwCl [(hc, .inr (0, [.ref h0, .ref a1, .ref a2, .ref a3, .ref a4, .ref a5, .ref a6, .ref a7, .ref a8])), (a7, .inl (T 0, 24, .inl (zA F7)))] s.heap := hP
  have hl := lv_entry ([.ref hc, .int (iz (tt))]) (n := 4) (Nat.le_of_ble_eq_true rfl)
  rw [lg_entry_eq]
  generalize (lg_sl ([.ref hc, .int (iz (tt))]) ++ List.replicate (4 - (lg_sl ([.ref hc, .int (iz (tt))])).length) Slot.unset).toArray = ls at hl ⊢
  have hl : lv_has ls 4 [(0, .ref hc), (1, .int (iz (tt)))] := hl
  refine lv_iconst (v := iz (0)) hx hb dX0_setOf_0 (by decide) ?_
  refine lv_istore_n (lv' := [(2, .int (iz (0))), (0, .ref hc), (1, .int (iz (tt)))]) hx hb dX0_setOf_1 rfl hl (by decide) rfl (fun ls hl => ?_)
  refine lv_iconst (v := iz (0)) hx hb dX0_setOf_2 (by decide) ?_
  refine lv_istore_n (lv' := [(3, .int (iz (0))), (2, .int (iz (0))), (0, .ref hc), (1, .int (iz (tt)))]) hx hb dX0_setOf_3 rfl hl (by decide) rfl (fun ls hl => ?_)
  have hl : lv_has ls 4 [(3, .int (iz (0))), (2, .int (iz (((sb F7 tt 0 : Nat) : Int)))), (0, .ref hc), (1, .int (iz (tt)))] := by rw [← (show (0 : Int) = ((sb F7 tt 0 : Nat) : Int) from rfl)]; exact hl
  have hl : lv_has ls 4 [(3, .int (iz (((0 : Nat) : Int)))), (2, .int (iz (((sb F7 tt 0 : Nat) : Int)))), (0, .ref hc), (1, .int (iz (tt)))] := by rw [← (show (0 : Int) = ((0 : Nat) : Int) from (by first | rfl | omega))]; exact hl
  refine kz_loopR1 (pc := 4) (I := fun (n : Nat) (ls : Array Slot) => (n ≤ 24) ∧ lv_has ls 4 [(0, .ref hc), (1, .int (iz (tt))), (2, .int (iz (((sb F7 tt n : Nat) : Int)))), (3, .int (iz (((n : Nat) : Int))))]) (μ := fun (n : Nat) => 24 - n) 0 ⟨(by omega), lv_sub hl [2, 3, 1, 0] rfl⟩ ?_
  rintro n ls ⟨hn, hl⟩ ih4
  have hsb := sb_lt F7 tt n
  refine lv_iload_n hx hb dX0_setOf_4 rfl (lv_at hl 3 rfl) ?_
  refine lv_bipush (v := iz (24)) hx hb dX0_setOf_5 (by decide) ?_
  refine kz_icmp_ge (tgt := 32) hx hb dX0_setOf_7 (by decide) (by omega) (by omega) (fun c7 => ?_) (fun c7 => ?_)
  · have hnn : n = 24 := by omega
    refine lv_iload_n hx hb dX0_setOf_32 rfl (lv_at hl 2 rfl) ?_
    exact W.iret hx hb hr (fun t ht _ => ⟨_, rfl, (congrArg iz (by rw [hnn])), ht⟩) (fun _ h => absurd h List.not_mem_nil) dX0_setOf_33
  · refine lv_aload_n hx hb dX0_setOf_10 rfl (lv_at hl 0 rfl) ?_
    refine va_get (D := D) (ci := 0) (C := RX0) (T := TX0) (N := 9) hx hb hts w1 hown hK.1 hP 0 rfl rfl 7 (by decide) w0 (fun _ h9 => h9) rfl dX0_setOf_11 ?_
    refine lv_iload_n hx hb dX0_setOf_14 rfl (lv_at hl 3 rfl) ?_
    have hf7 := hF7 n (by omega)
    refine kz_iald hx hb hK hP (1) rfl (n) (by omega) (by omega) (by omega) dX0_setOf_15 ?_
    refine lv_iload_n hx hb dX0_setOf_16 rfl (lv_at hl 1 rfl) ?_
    refine kz_icmp_ne (tgt := 26) hx hb dX0_setOf_17 (by decide) (by omega) (by omega) (fun c17 => ?_) (fun c17 => ?_)
    · refine kz_iinc (b := ((n + 1 : Nat) : Int)) (lv' := [(3, .int (iz (((n + 1 : Nat) : Int)))), (0, .ref hc), (1, .int (iz (tt))), (2, .int (iz (((sb F7 tt n : Nat) : Int))))]) hx hb dX0_setOf_26 hl (k := 3) rfl (by omega) (by decide) rfl (fun ls hl => ?_)
      refine lv_goto (tgt := 4) hx hb dX0_setOf_29 (by decide) ?_
      have hl : lv_has ls 4 [(3, .int (iz (((n + 1 : Nat) : Int)))), (0, .ref hc), (1, .int (iz (tt))), (2, .int (iz (((sb F7 tt (n + 1) : Nat) : Int))))] := by rw [← (show (((sb F7 tt n : Nat) : Int) : Int) = ((sb F7 tt (n + 1) : Nat) : Int) from (by first | rw [sb_y (by omega)] | rw [sb_n (by omega)]))]; exact hl
      exact ih4 (n + 1) _ ⟨(by omega), lv_sub hl [1, 2, 3, 0] rfl⟩ (by omega)
    · refine lv_iload_n hx hb dX0_setOf_20 rfl (lv_at hl 2 rfl) ?_
      refine lv_iconst (v := iz (1)) hx hb dX0_setOf_21 (by decide) ?_
      refine lv_iload_n hx hb dX0_setOf_22 rfl (lv_at hl 3 rfl) ?_
      refine kz_shl1 hx hb (by omega) dX0_setOf_23 ?_
      refine kz_ior hx hb hsb (by omega) dX0_setOf_24 ?_
      refine lv_istore_n (lv' := [(2, .int (iz ((((sb F7 tt n) + 2 ^ n : Nat) : Int)))), (0, .ref hc), (1, .int (iz (tt))), (3, .int (iz (((n : Nat) : Int))))]) hx hb dX0_setOf_25 rfl hl (by decide) rfl (fun ls hl => ?_)
      refine kz_iinc (b := ((n + 1 : Nat) : Int)) (lv' := [(3, .int (iz (((n + 1 : Nat) : Int)))), (2, .int (iz ((((sb F7 tt n) + 2 ^ n : Nat) : Int)))), (0, .ref hc), (1, .int (iz (tt)))]) hx hb dX0_setOf_26 hl (k := 3) rfl (by omega) (by decide) rfl (fun ls hl => ?_)
      refine lv_goto (tgt := 4) hx hb dX0_setOf_29 (by decide) ?_
      have hl : lv_has ls 4 [(3, .int (iz (((n + 1 : Nat) : Int)))), (2, .int (iz (((sb F7 tt (n + 1) : Nat) : Int)))), (0, .ref hc), (1, .int (iz (tt)))] := by rw [← (show ((((sb F7 tt n) + 2 ^ n : Nat) : Int) : Int) = ((sb F7 tt (n + 1) : Nat) : Int) from (by first | rw [sb_y (by omega)] | rw [sb_n (by omega)]))]; exact hl
      exact ih4 (n + 1) _ ⟨(by omega), lv_sub hl [2, 3, 1, 0] rfl⟩ (by omega)
set_option maxHeartbeats 4000000 in
set_option maxRecDepth 100000 in
theorem c_X0_hoursWith (l : Launch) (D : va_G) (T : Nat → ClassId) (hc : Nat) (a1 : Nat) (a2 : Nat) (a3 : Nat) (a4 : Nat) (a5 : Nat) (a6 : Nat) (a7 : Nat) (a8 : Nat) (h0 : Nat) (F7 : Nat → Int) (hF7 : ∀ r : Nat, r < 24 → -100 ≤ F7 r ∧ F7 r ≤ 100) (tt : Int) (htt : -2147483648 ≤ tt ∧ tt < 2147483648) : Met l yX0_hoursWith wsX0_hoursWith ({ frames := 1, cells := 0, slots := 0, locals := 23 }) (kPc D T [.ref hc, .int (iz (tt))] (va_P D vwCl [(hc, .inr (0, [.ref h0, .ref a1, .ref a2, .ref a3, .ref a4, .ref a5, .ref a6, .ref a7, .ref a8])), (a7, .inl (T 0, 24, .inl (zA F7)))])) (vp_Si (fun r : Int32 => r = iz (((nb F7 tt 24 : Nat) : Int)))) 0 0 (fun _ => False) := by
  refine Met.ofW (cc := cX0_hoursWith) (maxL := 2) (ret := (some .int)) (by decide) rfl ?_
  intro p e s m args below meth c s₁ B hml hv
  obtain ⟨rfl, hK, hP⟩ := hv
  have hx := B.exec
  have hb := B.bytes
  have hr := B.returns
  have hts := atoms_spec (ws := wsX0_hoursWith) B.pre
  have hown : s.vm.findClass RX0 = some m.cls := findClass_of_methodNamed B.named
  have hlocks := B.notSynchronized
  have hP : va_P D vwCl [(hc, .inr (0, [.ref h0, .ref a1, .ref a2, .ref a3, .ref a4, .ref a5, .ref a6, .ref a7, .ref a8])), (a7, .inl (T 0, 24, .inl (zA F7)))] s.heap := hP
  have hl := lv_entry ([.ref hc, .int (iz (tt))]) (n := 2) (Nat.le_of_ble_eq_true rfl)
  rw [lg_entry_eq]
  generalize (lg_sl ([.ref hc, .int (iz (tt))]) ++ List.replicate (2 - (lg_sl ([.ref hc, .int (iz (tt))])).length) Slot.unset).toArray = ls at hl ⊢
  have hl : lv_has ls 2 [(0, .ref hc), (1, .int (iz (tt)))] := hl
  refine lv_aload_n hx hb dX0_hoursWith_0 rfl (lv_at hl 0 rfl) ?_
  refine lv_iload_n hx hb dX0_hoursWith_1 rfl (lv_at hl 1 rfl) ?_
  refine kc_i (va_runV (As := [.int (iz (tt))]) (rest := []) ⟨hx, hb, hml, hown, hts⟩ (c_X0_setOf l D T hc a1 a2 a3 a4 a5 a6 a7 a8 h0 F7 hF7 tt (by omega)) (cwV 1 hts gX0_hoursWith_X0_setOf rfl rfl rfl (by decide +kernel) ⟨Nat.le_of_ble_eq_true rfl, Nat.le_of_ble_eq_true rfl⟩) (kPc.v hK (va_recv hK.1 hP (ci := 0) (q0 := 0) rfl rfl) (kcut hP [0, 1] rfl)) rfl rfl hl.1 rfl (lv_room (Nat.le_of_ble_eq_true rfl)) dX0_hoursWith_2 ⟨Nat.zero_le _, Nat.zero_le _⟩) (fun r1 hr1 => ?_)
  subst hr1
  refine kc_i (va_runS (As := [.int (iz (((sb F7 tt 24 : Nat) : Int)))]) (rest := []) ⟨hx, hb, hml, hown, hts⟩ (c_J6_bitCount_0f7a4 l D T (sb F7 tt 24) (sb_lt _ _ 24)) (va_cwS 1 hts gX0_hoursWith_J6_bitCount_0f7a4 rfl rfl rfl (by decide +kernel) ⟨Nat.le_of_ble_eq_true rfl, Nat.le_of_ble_eq_true rfl⟩) (kPc.s hK (kcut hP [] rfl)) rfl rfl hl.1 rfl (lv_room (Nat.le_of_ble_eq_true rfl)) dX0_hoursWith_5 ⟨Nat.zero_le _, Nat.zero_le _⟩) (fun r2 hr2 => ?_)
  subst hr2
  exact W.iret hx hb hr (fun t ht _ => ⟨_, rfl, (congrArg (fun q : Nat => iz (q : Int)) (sb_pc F7 tt)), ht⟩) (fun _ h => absurd h List.not_mem_nil) dX0_hoursWith_8
