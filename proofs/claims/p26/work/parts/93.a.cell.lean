set_option maxHeartbeats 4000000 in
set_option maxRecDepth 100000 in
theorem c_L_low (l : Launch) (D : va_G) (T : Nat → ClassId) (v0 : Int) (n1 : Int) (hn1 : 0 < n1 ∧ n1 < 2147483648) : Met l yL_low wsL_low ({ frames := 0, cells := 0, slots := 0, locals := 0 }) (kPc D T [.int (iz (v0)), .int (iz (n1))] (va_P D vwCl [])) (vp_Si (fun r : Int32 => r = iz (v0 % 2147483648 % n1))) 0 0 (fun _ => False) := by
  refine Met.ofW (cc := cL_low) (maxL := 2) (ret := (some .int)) (by decide) rfl ?_
  intro p e s m args below meth c s₁ B hml hv
  obtain ⟨rfl, hK, hP⟩ := hv
  have hx := B.exec
  have hb := B.bytes
  have hr := B.returns
  have hts := atoms_spec (ws := wsL_low) B.pre
  have hown : s.vm.findClass RL = some m.cls := findClass_of_methodNamed B.named
  have hlocks := B.notSynchronized
  have w0 := hts (.constant RL 7 (2147483647)) (List.mem_of_getElem? (i := 1) rfl)
  have hP : va_P D vwCl [] s.heap := hP
  have hl := lv_entry ([.int (iz (v0)), .int (iz (n1))]) (n := 2) (Nat.le_of_ble_eq_true rfl)
  rw [lg_entry_eq]
  generalize (lg_sl ([.int (iz (v0)), .int (iz (n1))]) ++ List.replicate (2 - (lg_sl ([.int (iz (v0)), .int (iz (n1))])).length) Slot.unset).toArray = ls at hl ⊢
  have hl : lv_has ls 2 [(0, .int (iz (v0))), (1, .int (iz (n1)))] := hl
  refine lv_iload_n hx hb dL_low_0 rfl (lv_at hl 0 rfl) ?_
  refine lv_ldc (v := (2147483647 : Int32)) hx hb hown w0 dL_low_1 ?_
  refine W.eq (g2 := F0 m 3 ls (.int (iz (2147483647)) :: [.int (iz (v0))])) (by rw [show iz (2147483647) = (2147483647 : Int32) from by decide]) ?_
  refine kz_andM hx hb dL_low_3 ?_
  refine lv_iload_n hx hb dL_low_4 rfl (lv_at hl 1 rfl) ?_
  refine kz_rem hx hb (by omega) (by omega) dL_low_5 ?_
  exact W.iret hx hb hr (fun t ht _ => ⟨_, rfl, rfl, ht⟩) (fun _ h => absurd h List.not_mem_nil) dL_low_6
set_option maxHeartbeats 4000000 in
set_option maxRecDepth 100000 in
theorem c_L_cell (l : Launch) (D : va_G) (T : Nat → ClassId) (b0 : Nat) (n0 : Nat) (FS : Nat → Int) (k : Nat) (hk : k ≤ 2000) (hn0 : n0 ≤ 100000) : Met l yL_cell wsL_cell ({ frames := 0, cells := 0, slots := 0, locals := 0 }) (kPcX D T [.ref b0, .int (iz (((k : Nat) : Int)))] b0 n0 FS (va_P D vwCl [])) (vp_Si (fun r : Int32 => r = iz (lcl FS n0 k))) 0 0 (fun _ => False) := by
  refine Met.ofW (cc := cL_cell) (maxL := 2) (ret := (some .int)) (by decide) rfl ?_
  intro p e s m args below meth c s₁ B hml hv
  obtain ⟨rfl, hK, hX, hP⟩ := hv
  have hx := B.exec
  have hb := B.bytes
  have hr := B.returns
  have hts := atoms_spec (ws := wsL_cell) B.pre
  have hown : s.vm.findClass RL = some m.cls := findClass_of_methodNamed B.named
  have hlocks := B.notSynchronized
  have w0 := hts (.constant RL 8 (40503)) (List.mem_of_getElem? (i := 1) rfl)
  have hP : va_P D vwCl [] s.heap := hP
  have hl := lv_entry ([.ref b0, .int (iz (((k : Nat) : Int)))]) (n := 2) (Nat.le_of_ble_eq_true rfl)
  rw [lg_entry_eq]
  generalize (lg_sl ([.ref b0, .int (iz (((k : Nat) : Int)))]) ++ List.replicate (2 - (lg_sl ([.ref b0, .int (iz (((k : Nat) : Int)))])).length) Slot.unset).toArray = ls at hl ⊢
  have hl : lv_has ls 2 [(0, .ref b0), (1, .int (iz (((k : Nat) : Int))))] := hl
  refine lv_iload_n hx hb dL_cell_0 rfl (lv_at hl 1 rfl) ?_
  refine lv_aload_n hx hb dL_cell_1 rfl (lv_at hl 0 rfl) ?_
  refine kz_slen (A := fun _ => False) hx hb hX hX.lt (fun h => h) va_S.rf dL_cell_2 ?_
  refine kz_icmp_ge (tgt := 12) hx hb dL_cell_3 (by decide) (by omega) (by omega) (fun c3 => ?_) (fun c3 => ?_)
  · refine lv_ldc (v := (40503 : Int32)) hx hb hown w0 dL_cell_12 ?_
    refine W.eq (g2 := F0 m 14 ls (.int (iz (40503)) :: [])) (by rw [show iz (40503) = (40503 : Int32) from by decide]) ?_
    refine lv_iload_n hx hb dL_cell_14 rfl (lv_at hl 1 rfl) ?_
    refine kz_mul hx hb dL_cell_15 ?_
    refine lv_sipush (v := iz (977)) hx hb dL_cell_16 (by decide) ?_
    refine kz_add hx hb dL_cell_19 ?_
    exact W.iret hx hb hr (fun t ht _ => ⟨_, rfl, (congrArg iz (by unfold lcl; first | rw [if_pos (by omega)] | rw [if_neg (by omega)])), ht⟩) (fun _ h => absurd h List.not_mem_nil) dL_cell_20
  · refine lv_aload_n hx hb dL_cell_6 rfl (lv_at hl 0 rfl) ?_
    refine lv_iload_n hx hb dL_cell_7 rfl (lv_at hl 1 rfl) ?_
    refine kz_sld (A := fun _ => False) hx hb hX hX.lt (fun h => h) va_S.rf hn0 (k) rfl (by omega) dL_cell_8 ?_
    refine lv_goto (tgt := 20) hx hb dL_cell_9 (by decide) ?_
    exact W.iret hx hb hr (fun t ht _ => ⟨_, rfl, (congrArg iz (by unfold lcl; first | rw [if_pos (by omega)] | rw [if_neg (by omega)])), ht⟩) (fun _ h => absurd h List.not_mem_nil) dL_cell_20
