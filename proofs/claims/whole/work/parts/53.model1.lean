set_option maxHeartbeats 4000000 in
set_option maxRecDepth 100000 in
theorem c_X7_in (l : Launch) (D : va_G) (T : Nat → ClassId) (a : Int) (b : Int) (d2 : Int) (hia : -2147483648 ≤ a ∧ a < 2147483648) (hib : -2147483648 ≤ b ∧ b < 2147483648) (hid2 : -2147483648 ≤ d2 ∧ d2 < 2147483648) : Met l yX7_in wsX7_in ({ frames := 0, cells := 0, slots := 0, locals := 0 }) (kPc D T [.int (iz (a)), .int (iz (b)), .int (iz (d2))] (va_P D vwCl [])) (vp_Si (fun r : Int32 => r = iz (if b ≤ a ∧ a ≤ d2 then 1 else 0))) 0 0 (fun _ => False) := by
  refine Met.ofW (cc := cX7_in) (maxL := 3) (ret := (some .boolean)) (by decide) rfl ?_
  intro p e s m args below meth c s₁ B hml hv
  obtain ⟨rfl, hK, hP⟩ := hv
  have hx := B.exec
  have hb := B.bytes
  have hr := B.returns
  have hts := atoms_spec (ws := wsX7_in) B.pre
  have hown : s.vm.findClass RX7 = some m.cls := findClass_of_methodNamed B.named
  have hlocks := B.notSynchronized
  have hP : va_P D vwCl [] s.heap := hP
  have hl := lv_entry ([.int (iz (a)), .int (iz (b)), .int (iz (d2))]) (n := 3) (Nat.le_of_ble_eq_true rfl)
  rw [lg_entry_eq]
  generalize (lg_sl ([.int (iz (a)), .int (iz (b)), .int (iz (d2))]) ++ List.replicate (3 - (lg_sl ([.int (iz (a)), .int (iz (b)), .int (iz (d2))])).length) Slot.unset).toArray = ls at hl ⊢
  have hl : lv_has ls 3 [(0, .int (iz (a))), (1, .int (iz (b))), (2, .int (iz (d2)))] := hl
  refine lv_iload_n hx hb dX7_in_0 rfl (lv_at hl 0 rfl) ?_
  refine lv_iload_n hx hb dX7_in_1 rfl (lv_at hl 1 rfl) ?_
  refine kz_icmp_lt (tgt := 14) hx hb dX7_in_2 (by decide) (by omega) (by omega) (fun c2 => ?_) (fun c2 => ?_)
  · refine lv_iconst (v := iz (0)) hx hb dX7_in_14 (by decide) ?_
    exact W.zret hx hb hr (kz_nar (by omega)) (fun t ht _ => ⟨_, rfl, (congrArg iz (by rw [if_neg (by omega)])), ht⟩) (fun _ h => absurd h List.not_mem_nil) dX7_in_15
  · refine lv_iload_n hx hb dX7_in_5 rfl (lv_at hl 0 rfl) ?_
    refine lv_iload_n hx hb dX7_in_6 rfl (lv_at hl 2 rfl) ?_
    refine kz_icmp_gt (tgt := 14) hx hb dX7_in_7 (by decide) (by omega) (by omega) (fun c7 => ?_) (fun c7 => ?_)
    · refine lv_iconst (v := iz (0)) hx hb dX7_in_14 (by decide) ?_
      exact W.zret hx hb hr (kz_nar (by omega)) (fun t ht _ => ⟨_, rfl, (congrArg iz (by rw [if_neg (by omega)])), ht⟩) (fun _ h => absurd h List.not_mem_nil) dX7_in_15
    · refine lv_iconst (v := iz (1)) hx hb dX7_in_10 (by decide) ?_
      refine lv_goto (tgt := 15) hx hb dX7_in_11 (by decide) ?_
      exact W.zret hx hb hr (kz_nar (by omega)) (fun t ht _ => ⟨_, rfl, (congrArg iz (by rw [if_pos (by omega)])), ht⟩) (fun _ h => absurd h List.not_mem_nil) dX7_in_15
set_option maxHeartbeats 4000000 in
set_option maxRecDepth 100000 in
theorem c_X7_isHour (l : Launch) (D : va_G) (T : Nat → ClassId) (a : Int) (hia : -2147483648 ≤ a ∧ a < 2147483648) : Met l yX7_isHour wsX7_isHour ({ frames := 1, cells := 0, slots := 0, locals := 22 }) (kPc D T [.int (iz (a))] (va_P D vwCl [])) (vp_Si (fun r : Int32 => r = iz (if 0 ≤ a ∧ a ≤ 23 then 1 else 0))) 0 0 (fun _ => False) := by
  refine Met.ofW (cc := cX7_isHour) (maxL := 1) (ret := (some .boolean)) (by decide) rfl ?_
  intro p e s m args below meth c s₁ B hml hv
  obtain ⟨rfl, hK, hP⟩ := hv
  have hx := B.exec
  have hb := B.bytes
  have hr := B.returns
  have hts := atoms_spec (ws := wsX7_isHour) B.pre
  have hown : s.vm.findClass RX7 = some m.cls := findClass_of_methodNamed B.named
  have hlocks := B.notSynchronized
  have hP : va_P D vwCl [] s.heap := hP
  have hl := lv_entry ([.int (iz (a))]) (n := 1) (Nat.le_of_ble_eq_true rfl)
  rw [lg_entry_eq]
  generalize (lg_sl ([.int (iz (a))]) ++ List.replicate (1 - (lg_sl ([.int (iz (a))])).length) Slot.unset).toArray = ls at hl ⊢
  have hl : lv_has ls 1 [(0, .int (iz (a)))] := hl
  refine lv_iload_n hx hb dX7_isHour_0 rfl (lv_at hl 0 rfl) ?_
  refine lv_iconst (v := iz (0)) hx hb dX7_isHour_1 (by decide) ?_
  refine lv_bipush (v := iz (23)) hx hb dX7_isHour_2 (by decide) ?_
  refine kc_i (va_runS (As := [.int (iz (a)), .int (iz (0)), .int (iz (23))]) (rest := []) ⟨hx, hb, hml, hown, hts⟩ (c_X7_in l D T a 0 23 (by omega) (by omega) (by omega)) (va_cwS 3 hts gX7_isHour_X7_in rfl rfl rfl (by decide +kernel) ⟨Nat.le_of_ble_eq_true rfl, Nat.le_of_ble_eq_true rfl⟩) (kPc.s hK (kcut hP [] rfl)) rfl rfl hl.1 rfl (lv_room (Nat.le_of_ble_eq_true rfl)) dX7_isHour_4 ⟨Nat.zero_le _, Nat.zero_le _⟩) (fun r1 hr1 => ?_)
  subst hr1
  have h01 : (if 0 ≤ a ∧ a ≤ 23 then (1 : Int) else 0) = 0 ∨ (if 0 ≤ a ∧ a ≤ 23 then (1 : Int) else 0) = 1 := by split <;> omega
  exact W.zret hx hb hr (kz_nar (by omega)) (fun t ht _ => ⟨_, rfl, rfl, ht⟩) (fun _ h => absurd h List.not_mem_nil) dX7_isHour_7
