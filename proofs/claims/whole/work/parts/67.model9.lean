set_option maxHeartbeats 4000000 in
set_option maxRecDepth 100000 in
theorem c_X7_isFor (l : Launch) (D : va_G) (T : Nat → ClassId) (a : Int) (b : Int) (ha9 : 0 ≤ a ∧ a ≤ 9) (hib : -2147483648 ≤ b ∧ b < 2147483648) : Met l yX7_isFor wsX7_isFor ({ frames := 1, cells := 0, slots := 0, locals := 22 }) (kPc D T [.int (iz (a)), .int (iz (b))] (va_P D vwCl [])) (vp_Si (fun r : Int32 => r = iz (if 0 ≤ b ∧ b ≤ mvF a.toNat then 1 else 0))) 0 0 (fun _ => False) := by
  refine Met.ofW (cc := cX7_isFor) (maxL := 2) (ret := (some .boolean)) (by decide) rfl ?_
  intro p e s m args below meth c s₁ B hml hv
  obtain ⟨rfl, hK, hP⟩ := hv
  have hx := B.exec
  have hb := B.bytes
  have hr := B.returns
  have hts := atoms_spec (ws := wsX7_isFor) B.pre
  have hown : s.vm.findClass RX7 = some m.cls := findClass_of_methodNamed B.named
  have hlocks := B.notSynchronized
  have hP : va_P D vwCl [] s.heap := hP
  have hl := lv_entry ([.int (iz (a)), .int (iz (b))]) (n := 2) (Nat.le_of_ble_eq_true rfl)
  rw [lg_entry_eq]
  generalize (lg_sl ([.int (iz (a)), .int (iz (b))]) ++ List.replicate (2 - (lg_sl ([.int (iz (a)), .int (iz (b))])).length) Slot.unset).toArray = ls at hl ⊢
  have hl : lv_has ls 2 [(0, .int (iz (a))), (1, .int (iz (b)))] := hl
  refine lv_iload_n hx hb dX7_isFor_0 rfl (lv_at hl 0 rfl) ?_
  have hmv : mvF a.toNat = if a ≤ 1 then 30 else if a ≤ 3 then 100 else if a = 4 then 30 else if a ≤ 8 then 200 else 999 := by unfold mvF; (repeat' split) <;> omega
  rcases (show a = 0 ∨ a = 1 ∨ a = 2 ∨ a = 3 ∨ a = 4 ∨ a = 5 ∨ a = 6 ∨ a = 7 ∨ a = 8 ∨ a = 9 ∨ (a < 0 ∨ 9 < a) from (by omega)) with hs1 | hs1 | hs1 | hs1 | hs1 | hs1 | hs1 | hs1 | hs1 | hs1 | hs1
  · refine kz_tableIn (v := 0) (tgt := 56) (off := 55) hx hb dX7_isFor_1 hs1 (by decide) rfl (by decide) ?_
    refine lv_iload_n hx hb dX7_isFor_56 rfl (lv_at hl 1 rfl) ?_
    refine lv_iconst (v := iz (0)) hx hb dX7_isFor_57 (by decide) ?_
    refine lv_bipush (v := iz (30)) hx hb dX7_isFor_58 (by decide) ?_
    refine kc_i (va_runS (As := [.int (iz (b)), .int (iz (0)), .int (iz (30))]) (rest := []) ⟨hx, hb, hml, hown, hts⟩ (c_X7_in l D T b 0 30 (by omega) (by omega) (by omega)) (va_cwS 3 hts gX7_isFor_X7_in rfl rfl rfl (by decide +kernel) ⟨Nat.le_of_ble_eq_true rfl, Nat.le_of_ble_eq_true rfl⟩) (kPc.s hK (kcut hP [] rfl)) rfl rfl hl.1 rfl (lv_room (Nat.le_of_ble_eq_true rfl)) dX7_isFor_60 ⟨Nat.zero_le _, Nat.zero_le _⟩) (fun r1 hr1 => ?_)
    subst hr1
    exact W.zret hx hb hr (kz_nar (by split <;> omega)) (fun t ht _ => ⟨_, rfl, (congrArg iz (by rw [hmv]; first | (rw [if_pos (show a ≤ 1 by omega)]; done) | (rw [if_neg (show ¬ a ≤ 1 by omega), if_pos (show a ≤ 3 by omega)]; done) | (rw [if_neg (show ¬ a ≤ 1 by omega), if_neg (show ¬ a ≤ 3 by omega), if_pos (show a = 4 by omega)]; done) | (rw [if_neg (show ¬ a ≤ 1 by omega), if_neg (show ¬ a ≤ 3 by omega), if_neg (show ¬ a = 4 by omega), if_pos (show a ≤ 8 by omega)]; done) | (rw [if_neg (show ¬ a ≤ 1 by omega), if_neg (show ¬ a ≤ 3 by omega), if_neg (show ¬ a = 4 by omega), if_neg (show ¬ a ≤ 8 by omega)]; done))), ht⟩) (fun _ h => absurd h List.not_mem_nil) dX7_isFor_63
  · refine kz_tableIn (v := 1) (tgt := 56) (off := 55) hx hb dX7_isFor_1 hs1 (by decide) rfl (by decide) ?_
    refine lv_iload_n hx hb dX7_isFor_56 rfl (lv_at hl 1 rfl) ?_
    refine lv_iconst (v := iz (0)) hx hb dX7_isFor_57 (by decide) ?_
    refine lv_bipush (v := iz (30)) hx hb dX7_isFor_58 (by decide) ?_
    refine kc_i (va_runS (As := [.int (iz (b)), .int (iz (0)), .int (iz (30))]) (rest := []) ⟨hx, hb, hml, hown, hts⟩ (c_X7_in l D T b 0 30 (by omega) (by omega) (by omega)) (va_cwS 3 hts gX7_isFor_X7_in rfl rfl rfl (by decide +kernel) ⟨Nat.le_of_ble_eq_true rfl, Nat.le_of_ble_eq_true rfl⟩) (kPc.s hK (kcut hP [] rfl)) rfl rfl hl.1 rfl (lv_room (Nat.le_of_ble_eq_true rfl)) dX7_isFor_60 ⟨Nat.zero_le _, Nat.zero_le _⟩) (fun r2 hr2 => ?_)
    subst hr2
    exact W.zret hx hb hr (kz_nar (by split <;> omega)) (fun t ht _ => ⟨_, rfl, (congrArg iz (by rw [hmv]; first | (rw [if_pos (show a ≤ 1 by omega)]; done) | (rw [if_neg (show ¬ a ≤ 1 by omega), if_pos (show a ≤ 3 by omega)]; done) | (rw [if_neg (show ¬ a ≤ 1 by omega), if_neg (show ¬ a ≤ 3 by omega), if_pos (show a = 4 by omega)]; done) | (rw [if_neg (show ¬ a ≤ 1 by omega), if_neg (show ¬ a ≤ 3 by omega), if_neg (show ¬ a = 4 by omega), if_pos (show a ≤ 8 by omega)]; done) | (rw [if_neg (show ¬ a ≤ 1 by omega), if_neg (show ¬ a ≤ 3 by omega), if_neg (show ¬ a = 4 by omega), if_neg (show ¬ a ≤ 8 by omega)]; done))), ht⟩) (fun _ h => absurd h List.not_mem_nil) dX7_isFor_63
  · refine kz_tableIn (v := 2) (tgt := 64) (off := 63) hx hb dX7_isFor_1 hs1 (by decide) rfl (by decide) ?_
    refine lv_iload_n hx hb dX7_isFor_64 rfl (lv_at hl 1 rfl) ?_
    refine lv_iconst (v := iz (0)) hx hb dX7_isFor_65 (by decide) ?_
    refine lv_bipush (v := iz (100)) hx hb dX7_isFor_66 (by decide) ?_
    refine kc_i (va_runS (As := [.int (iz (b)), .int (iz (0)), .int (iz (100))]) (rest := []) ⟨hx, hb, hml, hown, hts⟩ (c_X7_in l D T b 0 100 (by omega) (by omega) (by omega)) (va_cwS 3 hts gX7_isFor_X7_in rfl rfl rfl (by decide +kernel) ⟨Nat.le_of_ble_eq_true rfl, Nat.le_of_ble_eq_true rfl⟩) (kPc.s hK (kcut hP [] rfl)) rfl rfl hl.1 rfl (lv_room (Nat.le_of_ble_eq_true rfl)) dX7_isFor_68 ⟨Nat.zero_le _, Nat.zero_le _⟩) (fun r3 hr3 => ?_)
    subst hr3
    exact W.zret hx hb hr (kz_nar (by omega)) (fun t ht _ => ⟨_, rfl, (congrArg iz (by rw [hmv]; first | (rw [if_pos (show a ≤ 1 by omega)]; done) | (rw [if_neg (show ¬ a ≤ 1 by omega), if_pos (show a ≤ 3 by omega)]; done) | (rw [if_neg (show ¬ a ≤ 1 by omega), if_neg (show ¬ a ≤ 3 by omega), if_pos (show a = 4 by omega)]; done) | (rw [if_neg (show ¬ a ≤ 1 by omega), if_neg (show ¬ a ≤ 3 by omega), if_neg (show ¬ a = 4 by omega), if_pos (show a ≤ 8 by omega)]; done) | (rw [if_neg (show ¬ a ≤ 1 by omega), if_neg (show ¬ a ≤ 3 by omega), if_neg (show ¬ a = 4 by omega), if_neg (show ¬ a ≤ 8 by omega)]; done))), ht⟩) (fun _ h => absurd h List.not_mem_nil) dX7_isFor_71
  · refine kz_tableIn (v := 3) (tgt := 64) (off := 63) hx hb dX7_isFor_1 hs1 (by decide) rfl (by decide) ?_
    refine lv_iload_n hx hb dX7_isFor_64 rfl (lv_at hl 1 rfl) ?_
    refine lv_iconst (v := iz (0)) hx hb dX7_isFor_65 (by decide) ?_
    refine lv_bipush (v := iz (100)) hx hb dX7_isFor_66 (by decide) ?_
    refine kc_i (va_runS (As := [.int (iz (b)), .int (iz (0)), .int (iz (100))]) (rest := []) ⟨hx, hb, hml, hown, hts⟩ (c_X7_in l D T b 0 100 (by omega) (by omega) (by omega)) (va_cwS 3 hts gX7_isFor_X7_in rfl rfl rfl (by decide +kernel) ⟨Nat.le_of_ble_eq_true rfl, Nat.le_of_ble_eq_true rfl⟩) (kPc.s hK (kcut hP [] rfl)) rfl rfl hl.1 rfl (lv_room (Nat.le_of_ble_eq_true rfl)) dX7_isFor_68 ⟨Nat.zero_le _, Nat.zero_le _⟩) (fun r4 hr4 => ?_)
    subst hr4
    exact W.zret hx hb hr (kz_nar (by omega)) (fun t ht _ => ⟨_, rfl, (congrArg iz (by rw [hmv]; first | (rw [if_pos (show a ≤ 1 by omega)]; done) | (rw [if_neg (show ¬ a ≤ 1 by omega), if_pos (show a ≤ 3 by omega)]; done) | (rw [if_neg (show ¬ a ≤ 1 by omega), if_neg (show ¬ a ≤ 3 by omega), if_pos (show a = 4 by omega)]; done) | (rw [if_neg (show ¬ a ≤ 1 by omega), if_neg (show ¬ a ≤ 3 by omega), if_neg (show ¬ a = 4 by omega), if_pos (show a ≤ 8 by omega)]; done) | (rw [if_neg (show ¬ a ≤ 1 by omega), if_neg (show ¬ a ≤ 3 by omega), if_neg (show ¬ a = 4 by omega), if_neg (show ¬ a ≤ 8 by omega)]; done))), ht⟩) (fun _ h => absurd h List.not_mem_nil) dX7_isFor_71
  · refine kz_tableIn (v := 4) (tgt := 56) (off := 55) hx hb dX7_isFor_1 hs1 (by decide) rfl (by decide) ?_
    refine lv_iload_n hx hb dX7_isFor_56 rfl (lv_at hl 1 rfl) ?_
    refine lv_iconst (v := iz (0)) hx hb dX7_isFor_57 (by decide) ?_
    refine lv_bipush (v := iz (30)) hx hb dX7_isFor_58 (by decide) ?_
    refine kc_i (va_runS (As := [.int (iz (b)), .int (iz (0)), .int (iz (30))]) (rest := []) ⟨hx, hb, hml, hown, hts⟩ (c_X7_in l D T b 0 30 (by omega) (by omega) (by omega)) (va_cwS 3 hts gX7_isFor_X7_in rfl rfl rfl (by decide +kernel) ⟨Nat.le_of_ble_eq_true rfl, Nat.le_of_ble_eq_true rfl⟩) (kPc.s hK (kcut hP [] rfl)) rfl rfl hl.1 rfl (lv_room (Nat.le_of_ble_eq_true rfl)) dX7_isFor_60 ⟨Nat.zero_le _, Nat.zero_le _⟩) (fun r5 hr5 => ?_)
    subst hr5
    exact W.zret hx hb hr (kz_nar (by split <;> omega)) (fun t ht _ => ⟨_, rfl, (congrArg iz (by rw [hmv]; first | (rw [if_pos (show a ≤ 1 by omega)]; done) | (rw [if_neg (show ¬ a ≤ 1 by omega), if_pos (show a ≤ 3 by omega)]; done) | (rw [if_neg (show ¬ a ≤ 1 by omega), if_neg (show ¬ a ≤ 3 by omega), if_pos (show a = 4 by omega)]; done) | (rw [if_neg (show ¬ a ≤ 1 by omega), if_neg (show ¬ a ≤ 3 by omega), if_neg (show ¬ a = 4 by omega), if_pos (show a ≤ 8 by omega)]; done) | (rw [if_neg (show ¬ a ≤ 1 by omega), if_neg (show ¬ a ≤ 3 by omega), if_neg (show ¬ a = 4 by omega), if_neg (show ¬ a ≤ 8 by omega)]; done))), ht⟩) (fun _ h => absurd h List.not_mem_nil) dX7_isFor_63
  · refine kz_tableIn (v := 5) (tgt := 81) (off := 80) hx hb dX7_isFor_1 hs1 (by decide) rfl (by decide) ?_
    refine lv_iload_n hx hb dX7_isFor_81 rfl (lv_at hl 1 rfl) ?_
    refine lv_iconst (v := iz (0)) hx hb dX7_isFor_82 (by decide) ?_
    refine lv_sipush (v := iz (200)) hx hb dX7_isFor_83 (by decide) ?_
    refine kc_i (va_runS (As := [.int (iz (b)), .int (iz (0)), .int (iz (200))]) (rest := []) ⟨hx, hb, hml, hown, hts⟩ (c_X7_in l D T b 0 200 (by omega) (by omega) (by omega)) (va_cwS 3 hts gX7_isFor_X7_in rfl rfl rfl (by decide +kernel) ⟨Nat.le_of_ble_eq_true rfl, Nat.le_of_ble_eq_true rfl⟩) (kPc.s hK (kcut hP [] rfl)) rfl rfl hl.1 rfl (lv_room (Nat.le_of_ble_eq_true rfl)) dX7_isFor_86 ⟨Nat.zero_le _, Nat.zero_le _⟩) (fun r6 hr6 => ?_)
    subst hr6
    exact W.zret hx hb hr (kz_nar (by split <;> omega)) (fun t ht _ => ⟨_, rfl, (congrArg iz (by rw [hmv]; first | (rw [if_pos (show a ≤ 1 by omega)]; done) | (rw [if_neg (show ¬ a ≤ 1 by omega), if_pos (show a ≤ 3 by omega)]; done) | (rw [if_neg (show ¬ a ≤ 1 by omega), if_neg (show ¬ a ≤ 3 by omega), if_pos (show a = 4 by omega)]; done) | (rw [if_neg (show ¬ a ≤ 1 by omega), if_neg (show ¬ a ≤ 3 by omega), if_neg (show ¬ a = 4 by omega), if_pos (show a ≤ 8 by omega)]; done) | (rw [if_neg (show ¬ a ≤ 1 by omega), if_neg (show ¬ a ≤ 3 by omega), if_neg (show ¬ a = 4 by omega), if_neg (show ¬ a ≤ 8 by omega)]; done))), ht⟩) (fun _ h => absurd h List.not_mem_nil) dX7_isFor_89
  · refine kz_tableIn (v := 6) (tgt := 81) (off := 80) hx hb dX7_isFor_1 hs1 (by decide) rfl (by decide) ?_
    refine lv_iload_n hx hb dX7_isFor_81 rfl (lv_at hl 1 rfl) ?_
    refine lv_iconst (v := iz (0)) hx hb dX7_isFor_82 (by decide) ?_
    refine lv_sipush (v := iz (200)) hx hb dX7_isFor_83 (by decide) ?_
    refine kc_i (va_runS (As := [.int (iz (b)), .int (iz (0)), .int (iz (200))]) (rest := []) ⟨hx, hb, hml, hown, hts⟩ (c_X7_in l D T b 0 200 (by omega) (by omega) (by omega)) (va_cwS 3 hts gX7_isFor_X7_in rfl rfl rfl (by decide +kernel) ⟨Nat.le_of_ble_eq_true rfl, Nat.le_of_ble_eq_true rfl⟩) (kPc.s hK (kcut hP [] rfl)) rfl rfl hl.1 rfl (lv_room (Nat.le_of_ble_eq_true rfl)) dX7_isFor_86 ⟨Nat.zero_le _, Nat.zero_le _⟩) (fun r7 hr7 => ?_)
    subst hr7
    exact W.zret hx hb hr (kz_nar (by split <;> omega)) (fun t ht _ => ⟨_, rfl, (congrArg iz (by rw [hmv]; first | (rw [if_pos (show a ≤ 1 by omega)]; done) | (rw [if_neg (show ¬ a ≤ 1 by omega), if_pos (show a ≤ 3 by omega)]; done) | (rw [if_neg (show ¬ a ≤ 1 by omega), if_neg (show ¬ a ≤ 3 by omega), if_pos (show a = 4 by omega)]; done) | (rw [if_neg (show ¬ a ≤ 1 by omega), if_neg (show ¬ a ≤ 3 by omega), if_neg (show ¬ a = 4 by omega), if_pos (show a ≤ 8 by omega)]; done) | (rw [if_neg (show ¬ a ≤ 1 by omega), if_neg (show ¬ a ≤ 3 by omega), if_neg (show ¬ a = 4 by omega), if_neg (show ¬ a ≤ 8 by omega)]; done))), ht⟩) (fun _ h => absurd h List.not_mem_nil) dX7_isFor_89
  · refine kz_tableIn (v := 7) (tgt := 81) (off := 80) hx hb dX7_isFor_1 hs1 (by decide) rfl (by decide) ?_
    refine lv_iload_n hx hb dX7_isFor_81 rfl (lv_at hl 1 rfl) ?_
    refine lv_iconst (v := iz (0)) hx hb dX7_isFor_82 (by decide) ?_
    refine lv_sipush (v := iz (200)) hx hb dX7_isFor_83 (by decide) ?_
    refine kc_i (va_runS (As := [.int (iz (b)), .int (iz (0)), .int (iz (200))]) (rest := []) ⟨hx, hb, hml, hown, hts⟩ (c_X7_in l D T b 0 200 (by omega) (by omega) (by omega)) (va_cwS 3 hts gX7_isFor_X7_in rfl rfl rfl (by decide +kernel) ⟨Nat.le_of_ble_eq_true rfl, Nat.le_of_ble_eq_true rfl⟩) (kPc.s hK (kcut hP [] rfl)) rfl rfl hl.1 rfl (lv_room (Nat.le_of_ble_eq_true rfl)) dX7_isFor_86 ⟨Nat.zero_le _, Nat.zero_le _⟩) (fun r8 hr8 => ?_)
    subst hr8
    exact W.zret hx hb hr (kz_nar (by split <;> omega)) (fun t ht _ => ⟨_, rfl, (congrArg iz (by rw [hmv]; first | (rw [if_pos (show a ≤ 1 by omega)]; done) | (rw [if_neg (show ¬ a ≤ 1 by omega), if_pos (show a ≤ 3 by omega)]; done) | (rw [if_neg (show ¬ a ≤ 1 by omega), if_neg (show ¬ a ≤ 3 by omega), if_pos (show a = 4 by omega)]; done) | (rw [if_neg (show ¬ a ≤ 1 by omega), if_neg (show ¬ a ≤ 3 by omega), if_neg (show ¬ a = 4 by omega), if_pos (show a ≤ 8 by omega)]; done) | (rw [if_neg (show ¬ a ≤ 1 by omega), if_neg (show ¬ a ≤ 3 by omega), if_neg (show ¬ a = 4 by omega), if_neg (show ¬ a ≤ 8 by omega)]; done))), ht⟩) (fun _ h => absurd h List.not_mem_nil) dX7_isFor_89
  · refine kz_tableIn (v := 8) (tgt := 81) (off := 80) hx hb dX7_isFor_1 hs1 (by decide) rfl (by decide) ?_
    refine lv_iload_n hx hb dX7_isFor_81 rfl (lv_at hl 1 rfl) ?_
    refine lv_iconst (v := iz (0)) hx hb dX7_isFor_82 (by decide) ?_
    refine lv_sipush (v := iz (200)) hx hb dX7_isFor_83 (by decide) ?_
    refine kc_i (va_runS (As := [.int (iz (b)), .int (iz (0)), .int (iz (200))]) (rest := []) ⟨hx, hb, hml, hown, hts⟩ (c_X7_in l D T b 0 200 (by omega) (by omega) (by omega)) (va_cwS 3 hts gX7_isFor_X7_in rfl rfl rfl (by decide +kernel) ⟨Nat.le_of_ble_eq_true rfl, Nat.le_of_ble_eq_true rfl⟩) (kPc.s hK (kcut hP [] rfl)) rfl rfl hl.1 rfl (lv_room (Nat.le_of_ble_eq_true rfl)) dX7_isFor_86 ⟨Nat.zero_le _, Nat.zero_le _⟩) (fun r9 hr9 => ?_)
    subst hr9
    exact W.zret hx hb hr (kz_nar (by split <;> omega)) (fun t ht _ => ⟨_, rfl, (congrArg iz (by rw [hmv]; first | (rw [if_pos (show a ≤ 1 by omega)]; done) | (rw [if_neg (show ¬ a ≤ 1 by omega), if_pos (show a ≤ 3 by omega)]; done) | (rw [if_neg (show ¬ a ≤ 1 by omega), if_neg (show ¬ a ≤ 3 by omega), if_pos (show a = 4 by omega)]; done) | (rw [if_neg (show ¬ a ≤ 1 by omega), if_neg (show ¬ a ≤ 3 by omega), if_neg (show ¬ a = 4 by omega), if_pos (show a ≤ 8 by omega)]; done) | (rw [if_neg (show ¬ a ≤ 1 by omega), if_neg (show ¬ a ≤ 3 by omega), if_neg (show ¬ a = 4 by omega), if_neg (show ¬ a ≤ 8 by omega)]; done))), ht⟩) (fun _ h => absurd h List.not_mem_nil) dX7_isFor_89
  · refine kz_tableIn (v := 9) (tgt := 72) (off := 71) hx hb dX7_isFor_1 hs1 (by decide) rfl (by decide) ?_
    refine lv_iload_n hx hb dX7_isFor_72 rfl (lv_at hl 1 rfl) ?_
    refine lv_iconst (v := iz (0)) hx hb dX7_isFor_73 (by decide) ?_
    refine lv_sipush (v := iz (999)) hx hb dX7_isFor_74 (by decide) ?_
    refine kc_i (va_runS (As := [.int (iz (b)), .int (iz (0)), .int (iz (999))]) (rest := []) ⟨hx, hb, hml, hown, hts⟩ (c_X7_in l D T b 0 999 (by omega) (by omega) (by omega)) (va_cwS 3 hts gX7_isFor_X7_in rfl rfl rfl (by decide +kernel) ⟨Nat.le_of_ble_eq_true rfl, Nat.le_of_ble_eq_true rfl⟩) (kPc.s hK (kcut hP [] rfl)) rfl rfl hl.1 rfl (lv_room (Nat.le_of_ble_eq_true rfl)) dX7_isFor_77 ⟨Nat.zero_le _, Nat.zero_le _⟩) (fun r10 hr10 => ?_)
    subst hr10
    exact W.zret hx hb hr (kz_nar (by split <;> omega)) (fun t ht _ => ⟨_, rfl, (congrArg iz (by rw [hmv]; first | (rw [if_pos (show a ≤ 1 by omega)]; done) | (rw [if_neg (show ¬ a ≤ 1 by omega), if_pos (show a ≤ 3 by omega)]; done) | (rw [if_neg (show ¬ a ≤ 1 by omega), if_neg (show ¬ a ≤ 3 by omega), if_pos (show a = 4 by omega)]; done) | (rw [if_neg (show ¬ a ≤ 1 by omega), if_neg (show ¬ a ≤ 3 by omega), if_neg (show ¬ a = 4 by omega), if_pos (show a ≤ 8 by omega)]; done) | (rw [if_neg (show ¬ a ≤ 1 by omega), if_neg (show ¬ a ≤ 3 by omega), if_neg (show ¬ a = 4 by omega), if_neg (show ¬ a ≤ 8 by omega)]; done))), ht⟩) (fun _ h => absurd h List.not_mem_nil) dX7_isFor_80
  · refine kz_tableOut (tgt := 81) hx hb dX7_isFor_1 (by omega) hs1 (by decide) ?_
    refine lv_iload_n hx hb dX7_isFor_81 rfl (lv_at hl 1 rfl) ?_
    refine lv_iconst (v := iz (0)) hx hb dX7_isFor_82 (by decide) ?_
    refine lv_sipush (v := iz (200)) hx hb dX7_isFor_83 (by decide) ?_
    refine kc_i (va_runS (As := [.int (iz (b)), .int (iz (0)), .int (iz (200))]) (rest := []) ⟨hx, hb, hml, hown, hts⟩ (c_X7_in l D T b 0 200 (by omega) (by omega) (by omega)) (va_cwS 3 hts gX7_isFor_X7_in rfl rfl rfl (by decide +kernel) ⟨Nat.le_of_ble_eq_true rfl, Nat.le_of_ble_eq_true rfl⟩) (kPc.s hK (kcut hP [] rfl)) rfl rfl hl.1 rfl (lv_room (Nat.le_of_ble_eq_true rfl)) dX7_isFor_86 ⟨Nat.zero_le _, Nat.zero_le _⟩) (fun r11 hr11 => ?_)
    subst hr11
    exact W.zret hx hb hr (kz_nar (by split <;> omega)) (fun t ht _ => ⟨_, rfl, (congrArg iz (by rw [hmv]; first | (rw [if_pos (show a ≤ 1 by omega)]; done) | (rw [if_neg (show ¬ a ≤ 1 by omega), if_pos (show a ≤ 3 by omega)]; done) | (rw [if_neg (show ¬ a ≤ 1 by omega), if_neg (show ¬ a ≤ 3 by omega), if_pos (show a = 4 by omega)]; done) | (rw [if_neg (show ¬ a ≤ 1 by omega), if_neg (show ¬ a ≤ 3 by omega), if_neg (show ¬ a = 4 by omega), if_pos (show a ≤ 8 by omega)]; done) | (rw [if_neg (show ¬ a ≤ 1 by omega), if_neg (show ¬ a ≤ 3 by omega), if_neg (show ¬ a = 4 by omega), if_neg (show ¬ a ≤ 8 by omega)]; done))), ht⟩) (fun _ h => absurd h List.not_mem_nil) dX7_isFor_89
set_option maxHeartbeats 4000000 in
set_option maxRecDepth 100000 in
theorem c_X7_isPossible (l : Launch) (D : va_G) (T : Nat → ClassId) (mm : Nat) (nw : Nat) (pa : Nat) (kp : Int) (zl : Nat) (hd : Nat) (pd : Nat) (pn : Int) (at0 : Int) (os : Nat) (od : Int) (dn : Int) (pu : Int) (lo2 : Int) (sp2 : Int) (lv2 : Int) (wa : Int) (mt : Nat) (cn : Nat) (Z : Nat → Int) (a : Int) (b : Int) (ha9 : 0 ≤ a ∧ a ≤ 9) (hb9 : 0 ≤ b ∧ b ≤ 999) (hV : VL Z) : Met l yX7_isPossible wsX7_isPossible ({ frames := 0, cells := 0, slots := 0, locals := 0 }) (kPc D T [.ref mm, .int (iz (a)), .int (iz (b))] (va_P D vwCl [(mm, .inr (7, [.ref nw, .ref pa, .int (iz (kp)), .ref zl, .ref hd, .ref pd, .int (iz (pn)), .int (iz (at0)), .ref os, .int (iz (od)), .int (iz (dn)), .int (iz (pu)), .int (iz (lo2)), .int (iz (sp2)), .int (iz (lv2)), .int (iz (wa)), .ref mt, .ref cn])), (nw, .inl (T 0, 115, .inl (zA (mz Z))))])) (vp_Si (fun r : Int32 => r = iz (if lk_fb Z a b = true then 1 else 0))) 0 0 (fun _ => False) := by
  refine Met.ofW (cc := cX7_isPossible) (maxL := 6) (ret := (some .boolean)) (by decide) rfl ?_
  intro p e s m args below meth c s₁ B hml hv
  obtain ⟨rfl, hK, hP⟩ := hv
  have hx := B.exec
  have hb := B.bytes
  have hr := B.returns
  have hts := atoms_spec (ws := wsX7_isPossible) B.pre
  have hown : s.vm.findClass RX7 = some m.cls := findClass_of_methodNamed B.named
  have hlocks := B.notSynchronized
  have w0 := hts (.fieldLink RX7 7 "LakePlantModel" "now" "[I") (List.mem_of_getElem? (i := 1) rfl)
  have w1 : ∀ w ∈ wsX70, w ∈ wsX7_isPossible := by decide +kernel
  have hP : va_P D vwCl [(mm, .inr (7, [.ref nw, .ref pa, .int (iz (kp)), .ref zl, .ref hd, .ref pd, .int (iz (pn)), .int (iz (at0)), .ref os, .int (iz (od)), .int (iz (dn)), .int (iz (pu)), .int (iz (lo2)), .int (iz (sp2)), .int (iz (lv2)), .int (iz (wa)), .ref mt, .ref cn])), (nw, .inl (T 0, 115, .inl (zA (mz Z))))] s.heap := hP
  have hl := lv_entry ([.ref mm, .int (iz (a)), .int (iz (b))]) (n := 6) (Nat.le_of_ble_eq_true rfl)
  rw [lg_entry_eq]
  generalize (lg_sl ([.ref mm, .int (iz (a)), .int (iz (b))]) ++ List.replicate (6 - (lg_sl ([.ref mm, .int (iz (a)), .int (iz (b))])).length) Slot.unset).toArray = ls at hl ⊢
  have hl : lv_has ls 6 [(0, .ref mm), (1, .int (iz (a))), (2, .int (iz (b)))] := hl
  have hs := hV.1
  unfold VS at hs
  refine kz_join (pcj := 45) (P := fun v1 => v1 = if (a = 5 → b ≤ Z 6) ∧ (a = 6 → Z 5 ≤ b) then 1 else 0) (rest := []) (ls := ls) (fun J45 => ?_) (fun v1 ev1 => ?_)
  · refine lv_iload_n hx hb dX7_isPossible_0 rfl (lv_at hl 1 rfl) ?_
    refine lv_iconst (v := iz (5)) hx hb dX7_isPossible_1 (by decide) ?_
    refine kz_icmp_ne (tgt := 24) hx hb dX7_isPossible_2 (by decide) (by omega) (by omega) (fun c2 => ?_) (fun c2 => ?_)
    · refine lv_iload_n hx hb dX7_isPossible_24 rfl (lv_at hl 1 rfl) ?_
      refine lv_bipush (v := iz (6)) hx hb dX7_isPossible_25 (by decide) ?_
      refine kz_icmp_ne (tgt := 40) hx hb dX7_isPossible_27 (by decide) (by omega) (by omega) (fun c27 => ?_) (fun c27 => ?_)
      · refine lv_iconst (v := iz (1)) hx hb dX7_isPossible_40 (by decide) ?_
        refine lv_goto (tgt := 45) hx hb dX7_isPossible_41 (by decide) ?_
        exact J45 (1) (by first | (rw [if_pos (by omega)]; done) | (rw [if_neg (by omega)]; done))
      · refine lv_iload_n hx hb dX7_isPossible_30 rfl (lv_at hl 2 rfl) ?_
        refine lv_aload_n hx hb dX7_isPossible_31 rfl (lv_at hl 0 rfl) ?_
        refine va_get (D := D) (ci := 7) (C := RX7) (T := TX7) (N := 18) hx hb hts w1 hown hK.1 hP 0 rfl rfl 0 (by decide) w0 (fun _ h9 => h9) rfl dX7_isPossible_32 ?_
        refine lv_iconst (v := iz (5)) hx hb dX7_isPossible_35 (by decide) ?_
        refine kz_iald hx hb hK hP (1) rfl (5) (by omega) (by omega) (by omega) dX7_isPossible_36 ?_
        refine kz_top (y := Z 5) (mz_lo (by omega)) ?_
        refine kz_icmp_lt (tgt := 44) hx hb dX7_isPossible_37 (by decide) (by omega) (by omega) (fun c37 => ?_) (fun c37 => ?_)
        · refine lv_iconst (v := iz (0)) hx hb dX7_isPossible_44 (by decide) ?_
          exact J45 (0) (by first | (rw [if_pos (by omega)]; done) | (rw [if_neg (by omega)]; done))
        · refine lv_iconst (v := iz (1)) hx hb dX7_isPossible_40 (by decide) ?_
          refine lv_goto (tgt := 45) hx hb dX7_isPossible_41 (by decide) ?_
          exact J45 (1) (by first | (rw [if_pos (by omega)]; done) | (rw [if_neg (by omega)]; done))
    · refine lv_iload_n hx hb dX7_isPossible_5 rfl (lv_at hl 2 rfl) ?_
      refine lv_aload_n hx hb dX7_isPossible_6 rfl (lv_at hl 0 rfl) ?_
      refine va_get (D := D) (ci := 7) (C := RX7) (T := TX7) (N := 18) hx hb hts w1 hown hK.1 hP 0 rfl rfl 0 (by decide) w0 (fun _ h9 => h9) rfl dX7_isPossible_7 ?_
      refine lv_bipush (v := iz (6)) hx hb dX7_isPossible_10 (by decide) ?_
      refine kz_iald hx hb hK hP (1) rfl (6) (by omega) (by omega) (by omega) dX7_isPossible_12 ?_
      refine kz_top (y := Z 6) (mz_lo (by omega)) ?_
      refine kz_icmp_gt (tgt := 20) hx hb dX7_isPossible_13 (by decide) (by omega) (by omega) (fun c13 => ?_) (fun c13 => ?_)
      · refine lv_iconst (v := iz (0)) hx hb dX7_isPossible_20 (by decide) ?_
        refine lv_goto (tgt := 45) hx hb dX7_isPossible_21 (by decide) ?_
        exact J45 (0) (by first | (rw [if_pos (by omega)]; done) | (rw [if_neg (by omega)]; done))
      · refine lv_iconst (v := iz (1)) hx hb dX7_isPossible_16 (by decide) ?_
        refine lv_goto (tgt := 45) hx hb dX7_isPossible_17 (by decide) ?_
        exact J45 (1) (by first | (rw [if_pos (by omega)]; done) | (rw [if_neg (by omega)]; done))
  · have hv01 : v1 = 0 ∨ v1 = 1 := by rw [ev1]; split <;> omega
    refine lv_istore_n (lv' := [(3, .int (iz (v1))), (0, .ref mm), (1, .int (iz (a))), (2, .int (iz (b)))]) hx hb dX7_isPossible_45 rfl hl (by decide) rfl (fun ls hl => ?_)
    refine lv_iconst (v := iz (0)) hx hb dX7_isPossible_46 (by decide) ?_
    refine lv_istore (lv' := [(4, .int (iz (0))), (3, .int (iz (v1))), (0, .ref mm), (1, .int (iz (a))), (2, .int (iz (b)))]) hx hb dX7_isPossible_47 hl (by decide) rfl (fun ls hl => ?_)
    have hl : lv_has ls 6 [(4, .int (iz (((0 : Nat) : Int)))), (3, .int (iz (v1))), (0, .ref mm), (1, .int (iz (a))), (2, .int (iz (b)))] := by rw [← (show (0 : Int) = ((0 : Nat) : Int) from (by first | rfl | omega))]; exact hl
    refine kz_loopR2 (pc := 49) (I := fun (n : Nat) (f3 : Int) (ls : Array Slot) => (n ≤ 24) ∧ (f3 = 0 ∨ f3 = 1) ∧ (f3 = 1 ↔ (v1 = 1 ∧ ∀ h : Nat, h < n → (a ≠ 0 ∨ -Z (58 + h) ≤ b) ∧ (a ≠ 1 ∨ Z (58 + h) ≤ b))) ∧ lv_has ls 6 [(0, .ref mm), (1, .int (iz (a))), (2, .int (iz (b))), (3, .int (iz (f3))), (4, .int (iz (((n : Nat) : Int))))]) (μ := fun (n : Nat) (f3 : Int) => 24 - n) 0 v1 ⟨(by omega), hv01, ⟨fun q => ⟨q, fun h hh => absurd hh (Nat.not_lt_zero h)⟩, fun q => q.1⟩, lv_sub hl [2, 3, 4, 1, 0] rfl⟩ ?_
    rintro n f3 ls ⟨hn, h01, hf3, hl⟩ ih49
    refine lv_iload hx hb dX7_isPossible_49 (lv_at hl 4 rfl) ?_
    refine lv_bipush (v := iz (24)) hx hb dX7_isPossible_51 (by decide) ?_
    refine kz_icmp_ge (tgt := 106) hx hb dX7_isPossible_53 (by decide) (by omega) (by omega) (fun c53 => ?_) (fun c53 => ?_)
    · have hnn : n = 24 := by omega
      refine lv_iload_n hx hb dX7_isPossible_106 rfl (lv_at hl 3 rfl) ?_
      subst hnn
      have hfb : lk_fb Z a b = true ↔ f3 = 1 := by
          rw [lk_fb_iff, hf3]
          have hev : v1 = 1 ↔ ((a = 5 → b ≤ Z 6) ∧ (a = 6 → Z 5 ≤ b)) := by rw [ev1]; split <;> omega
          rw [hev]
          unfold lk_fits
          constructor
          · intro q
            refine ⟨⟨q.1, q.2.1⟩, fun h hh => ?_⟩
            have q3 := q.2.2.1
            have q4 := q.2.2.2
            constructor
            · by_cases w : a = 0
              · have := q3 w h hh; omega
              · exact Or.inl w
            · by_cases w : a = 1
              · have := q4 w h hh; omega
              · exact Or.inl w
          · intro q
            refine ⟨q.1.1, q.1.2, fun w h hh => ?_, fun w h hh => ?_⟩
            · have := q.2 h hh; have := (hV.2.1 h hh).2.2; omega
            · have := q.2 h hh; have := (hV.2.1 h hh).2.2; omega
      exact W.zret hx hb hr (kz_nar (by omega)) (fun t ht _ => ⟨_, rfl, (congrArg iz (by by_cases w : lk_fb Z a b = true; (rw [if_pos w]; exact hfb.1 w); (rw [if_neg w]; have : ¬ (f3 = 1) := fun q => w (hfb.2 q); omega))), ht⟩) (fun _ h => absurd h List.not_mem_nil) dX7_isPossible_107
    · refine lv_aload_n hx hb dX7_isPossible_56 rfl (lv_at hl 0 rfl) ?_
      refine va_get (D := D) (ci := 7) (C := RX7) (T := TX7) (N := 18) hx hb hts w1 hown hK.1 hP 0 rfl rfl 0 (by decide) w0 (fun _ h9 => h9) rfl dX7_isPossible_57 ?_
      refine lv_bipush (v := iz (58)) hx hb dX7_isPossible_60 (by decide) ?_
      refine lv_iload hx hb dX7_isPossible_62 (lv_at hl 4 rfl) ?_
      refine kz_add hx hb dX7_isPossible_64 ?_
      refine kz_iald hx hb hK hP (1) rfl (58 + n) (by omega) (by omega) (by omega) dX7_isPossible_65 ?_
      refine kz_top (y := Z (58 + n)) (mz_lo (by omega)) ?_
      have hpl := hV.plan (h := n) (by omega)
      have hpn := (hV.2.1 n (by omega)).2.2
      refine lv_istore (lv' := [(5, .int (iz (Z (58 + n)))), (0, .ref mm), (1, .int (iz (a))), (2, .int (iz (b))), (3, .int (iz (f3))), (4, .int (iz (((n : Nat) : Int))))]) hx hb dX7_isPossible_66 hl (by decide) rfl (fun ls hl => ?_)
      refine lv_iload_n hx hb dX7_isPossible_68 rfl (lv_at hl 4 rfl) ?_
      refine kz_if_eq (tgt := 98) hx hb dX7_isPossible_69 (by decide) (by omega) (fun c69 => ?_) (fun c69 => ?_)
      · refine lv_iconst (v := iz (0)) hx hb dX7_isPossible_98 (by decide) ?_
        refine lv_istore_n (lv' := [(3, .int (iz (0))), (5, .int (iz (Z (58 + n)))), (0, .ref mm), (1, .int (iz (a))), (2, .int (iz (b))), (4, .int (iz (((n : Nat) : Int))))]) hx hb dX7_isPossible_99 rfl hl (by decide) rfl (fun ls hl => ?_)
        refine kz_iinc (b := ((n + 1 : Nat) : Int)) (lv' := [(4, .int (iz (((n + 1 : Nat) : Int)))), (3, .int (iz (0))), (5, .int (iz (Z (58 + n)))), (0, .ref mm), (1, .int (iz (a))), (2, .int (iz (b)))]) hx hb dX7_isPossible_100 hl (k := 5) rfl (by omega) (by decide) rfl (fun ls hl => ?_)
        refine lv_goto (tgt := 49) hx hb dX7_isPossible_103 (by decide) ?_
        exact ih49 (n + 1) 0 _ ⟨(by omega), (by omega), (by
    have hxx := hf3
    have hall : (∀ h : Nat, h < n + 1 → (a ≠ 0 ∨ -Z (58 + h) ≤ b) ∧ (a ≠ 1 ∨ Z (58 + h) ≤ b)) ↔ ((∀ h : Nat, h < n → (a ≠ 0 ∨ -Z (58 + h) ≤ b) ∧ (a ≠ 1 ∨ Z (58 + h) ≤ b)) ∧ (a ≠ 0 ∨ -Z (58 + n) ≤ b) ∧ (a ≠ 1 ∨ Z (58 + n) ≤ b)) := ⟨fun q => ⟨fun h hh => q h (by omega), q n (by omega)⟩, fun q h hh => by by_cases w : h = n; (subst w; exact q.2); exact q.1 h (by omega)⟩
    rw [hall]
    constructor
    · intro q; first | (exfalso; omega) | exact ⟨(hxx.1 (by omega)).1, (hxx.1 (by omega)).2, by omega⟩
    · intro q; first | rfl | (exfalso; have := hxx.2 ⟨q.1, q.2.1⟩; have := q.2.2; omega)), lv_sub hl [3, 4, 5, 1, 0] rfl⟩ (by omega)
      · refine lv_iload_n hx hb dX7_isPossible_72 rfl (lv_at hl 2 rfl) ?_
        refine kz_if_ne (tgt := 83) hx hb dX7_isPossible_73 (by decide) (by omega) (fun c73 => ?_) (fun c73 => ?_)
        · refine lv_iload_n hx hb dX7_isPossible_83 rfl (lv_at hl 2 rfl) ?_
          refine lv_iconst (v := iz (1)) hx hb dX7_isPossible_84 (by decide) ?_
          refine kz_icmp_ne (tgt := 94) hx hb dX7_isPossible_85 (by decide) (by omega) (by omega) (fun c85 => ?_) (fun c85 => ?_)
          · refine lv_iconst (v := iz (1)) hx hb dX7_isPossible_94 (by decide) ?_
            refine lv_goto (tgt := 99) hx hb dX7_isPossible_95 (by decide) ?_
            refine lv_istore_n (lv' := [(3, .int (iz (1))), (5, .int (iz (Z (58 + n)))), (0, .ref mm), (1, .int (iz (a))), (2, .int (iz (b))), (4, .int (iz (((n : Nat) : Int))))]) hx hb dX7_isPossible_99 rfl hl (by decide) rfl (fun ls hl => ?_)
            refine kz_iinc (b := ((n + 1 : Nat) : Int)) (lv' := [(4, .int (iz (((n + 1 : Nat) : Int)))), (3, .int (iz (1))), (5, .int (iz (Z (58 + n)))), (0, .ref mm), (1, .int (iz (a))), (2, .int (iz (b)))]) hx hb dX7_isPossible_100 hl (k := 5) rfl (by omega) (by decide) rfl (fun ls hl => ?_)
            refine lv_goto (tgt := 49) hx hb dX7_isPossible_103 (by decide) ?_
            exact ih49 (n + 1) 1 _ ⟨(by omega), (by omega), (by
    have hxx := hf3
    have hall : (∀ h : Nat, h < n + 1 → (a ≠ 0 ∨ -Z (58 + h) ≤ b) ∧ (a ≠ 1 ∨ Z (58 + h) ≤ b)) ↔ ((∀ h : Nat, h < n → (a ≠ 0 ∨ -Z (58 + h) ≤ b) ∧ (a ≠ 1 ∨ Z (58 + h) ≤ b)) ∧ (a ≠ 0 ∨ -Z (58 + n) ≤ b) ∧ (a ≠ 1 ∨ Z (58 + n) ≤ b)) := ⟨fun q => ⟨fun h hh => q h (by omega), q n (by omega)⟩, fun q h hh => by by_cases w : h = n; (subst w; exact q.2); exact q.1 h (by omega)⟩
    rw [hall]
    constructor
    · intro q; first | (exfalso; omega) | exact ⟨(hxx.1 (by omega)).1, (hxx.1 (by omega)).2, by omega⟩
    · intro q; first | rfl | (exfalso; have := hxx.2 ⟨q.1, q.2.1⟩; have := q.2.2; omega)), lv_sub hl [3, 4, 5, 1, 0] rfl⟩ (by omega)
          · refine lv_iload hx hb dX7_isPossible_88 (lv_at hl 0 rfl) ?_
            refine lv_iload_n hx hb dX7_isPossible_90 rfl (lv_at hl 3 rfl) ?_
            refine kz_icmp_gt (tgt := 98) hx hb dX7_isPossible_91 (by decide) (by omega) (by omega) (fun c91 => ?_) (fun c91 => ?_)
            · refine lv_iconst (v := iz (0)) hx hb dX7_isPossible_98 (by decide) ?_
              refine lv_istore_n (lv' := [(3, .int (iz (0))), (5, .int (iz (Z (58 + n)))), (0, .ref mm), (1, .int (iz (a))), (2, .int (iz (b))), (4, .int (iz (((n : Nat) : Int))))]) hx hb dX7_isPossible_99 rfl hl (by decide) rfl (fun ls hl => ?_)
              refine kz_iinc (b := ((n + 1 : Nat) : Int)) (lv' := [(4, .int (iz (((n + 1 : Nat) : Int)))), (3, .int (iz (0))), (5, .int (iz (Z (58 + n)))), (0, .ref mm), (1, .int (iz (a))), (2, .int (iz (b)))]) hx hb dX7_isPossible_100 hl (k := 5) rfl (by omega) (by decide) rfl (fun ls hl => ?_)
              refine lv_goto (tgt := 49) hx hb dX7_isPossible_103 (by decide) ?_
              exact ih49 (n + 1) 0 _ ⟨(by omega), (by omega), (by
    have hxx := hf3
    have hall : (∀ h : Nat, h < n + 1 → (a ≠ 0 ∨ -Z (58 + h) ≤ b) ∧ (a ≠ 1 ∨ Z (58 + h) ≤ b)) ↔ ((∀ h : Nat, h < n → (a ≠ 0 ∨ -Z (58 + h) ≤ b) ∧ (a ≠ 1 ∨ Z (58 + h) ≤ b)) ∧ (a ≠ 0 ∨ -Z (58 + n) ≤ b) ∧ (a ≠ 1 ∨ Z (58 + n) ≤ b)) := ⟨fun q => ⟨fun h hh => q h (by omega), q n (by omega)⟩, fun q h hh => by by_cases w : h = n; (subst w; exact q.2); exact q.1 h (by omega)⟩
    rw [hall]
    constructor
    · intro q; first | (exfalso; omega) | exact ⟨(hxx.1 (by omega)).1, (hxx.1 (by omega)).2, by omega⟩
    · intro q; first | rfl | (exfalso; have := hxx.2 ⟨q.1, q.2.1⟩; have := q.2.2; omega)), lv_sub hl [3, 4, 5, 1, 0] rfl⟩ (by omega)
            · refine lv_iconst (v := iz (1)) hx hb dX7_isPossible_94 (by decide) ?_
              refine lv_goto (tgt := 99) hx hb dX7_isPossible_95 (by decide) ?_
              refine lv_istore_n (lv' := [(3, .int (iz (1))), (5, .int (iz (Z (58 + n)))), (0, .ref mm), (1, .int (iz (a))), (2, .int (iz (b))), (4, .int (iz (((n : Nat) : Int))))]) hx hb dX7_isPossible_99 rfl hl (by decide) rfl (fun ls hl => ?_)
              refine kz_iinc (b := ((n + 1 : Nat) : Int)) (lv' := [(4, .int (iz (((n + 1 : Nat) : Int)))), (3, .int (iz (1))), (5, .int (iz (Z (58 + n)))), (0, .ref mm), (1, .int (iz (a))), (2, .int (iz (b)))]) hx hb dX7_isPossible_100 hl (k := 5) rfl (by omega) (by decide) rfl (fun ls hl => ?_)
              refine lv_goto (tgt := 49) hx hb dX7_isPossible_103 (by decide) ?_
              exact ih49 (n + 1) 1 _ ⟨(by omega), (by omega), (by
    have hxx := hf3
    have hall : (∀ h : Nat, h < n + 1 → (a ≠ 0 ∨ -Z (58 + h) ≤ b) ∧ (a ≠ 1 ∨ Z (58 + h) ≤ b)) ↔ ((∀ h : Nat, h < n → (a ≠ 0 ∨ -Z (58 + h) ≤ b) ∧ (a ≠ 1 ∨ Z (58 + h) ≤ b)) ∧ (a ≠ 0 ∨ -Z (58 + n) ≤ b) ∧ (a ≠ 1 ∨ Z (58 + n) ≤ b)) := ⟨fun q => ⟨fun h hh => q h (by omega), q n (by omega)⟩, fun q h hh => by by_cases w : h = n; (subst w; exact q.2); exact q.1 h (by omega)⟩
    rw [hall]
    constructor
    · intro q; first | (exfalso; omega) | exact ⟨(hxx.1 (by omega)).1, (hxx.1 (by omega)).2, by omega⟩
    · intro q; first | rfl | (exfalso; have := hxx.2 ⟨q.1, q.2.1⟩; have := q.2.2; omega)), lv_sub hl [3, 4, 5, 1, 0] rfl⟩ (by omega)
        · refine lv_iload hx hb dX7_isPossible_76 (lv_at hl 0 rfl) ?_
          refine kz_neg hx hb dX7_isPossible_78 ?_
          refine lv_iload_n hx hb dX7_isPossible_79 rfl (lv_at hl 3 rfl) ?_
          refine kz_icmp_gt (tgt := 98) hx hb dX7_isPossible_80 (by decide) (by omega) (by omega) (fun c80 => ?_) (fun c80 => ?_)
          · refine lv_iconst (v := iz (0)) hx hb dX7_isPossible_98 (by decide) ?_
            refine lv_istore_n (lv' := [(3, .int (iz (0))), (5, .int (iz (Z (58 + n)))), (0, .ref mm), (1, .int (iz (a))), (2, .int (iz (b))), (4, .int (iz (((n : Nat) : Int))))]) hx hb dX7_isPossible_99 rfl hl (by decide) rfl (fun ls hl => ?_)
            refine kz_iinc (b := ((n + 1 : Nat) : Int)) (lv' := [(4, .int (iz (((n + 1 : Nat) : Int)))), (3, .int (iz (0))), (5, .int (iz (Z (58 + n)))), (0, .ref mm), (1, .int (iz (a))), (2, .int (iz (b)))]) hx hb dX7_isPossible_100 hl (k := 5) rfl (by omega) (by decide) rfl (fun ls hl => ?_)
            refine lv_goto (tgt := 49) hx hb dX7_isPossible_103 (by decide) ?_
            exact ih49 (n + 1) 0 _ ⟨(by omega), (by omega), (by
    have hxx := hf3
    have hall : (∀ h : Nat, h < n + 1 → (a ≠ 0 ∨ -Z (58 + h) ≤ b) ∧ (a ≠ 1 ∨ Z (58 + h) ≤ b)) ↔ ((∀ h : Nat, h < n → (a ≠ 0 ∨ -Z (58 + h) ≤ b) ∧ (a ≠ 1 ∨ Z (58 + h) ≤ b)) ∧ (a ≠ 0 ∨ -Z (58 + n) ≤ b) ∧ (a ≠ 1 ∨ Z (58 + n) ≤ b)) := ⟨fun q => ⟨fun h hh => q h (by omega), q n (by omega)⟩, fun q h hh => by by_cases w : h = n; (subst w; exact q.2); exact q.1 h (by omega)⟩
    rw [hall]
    constructor
    · intro q; first | (exfalso; omega) | exact ⟨(hxx.1 (by omega)).1, (hxx.1 (by omega)).2, by omega⟩
    · intro q; first | rfl | (exfalso; have := hxx.2 ⟨q.1, q.2.1⟩; have := q.2.2; omega)), lv_sub hl [3, 4, 5, 1, 0] rfl⟩ (by omega)
          · refine lv_iload_n hx hb dX7_isPossible_83 rfl (lv_at hl 2 rfl) ?_
            refine lv_iconst (v := iz (1)) hx hb dX7_isPossible_84 (by decide) ?_
            refine kz_icmp_ne (tgt := 94) hx hb dX7_isPossible_85 (by decide) (by omega) (by omega) (fun c85 => ?_) (fun c85 => ?_)
            · refine lv_iconst (v := iz (1)) hx hb dX7_isPossible_94 (by decide) ?_
              refine lv_goto (tgt := 99) hx hb dX7_isPossible_95 (by decide) ?_
              refine lv_istore_n (lv' := [(3, .int (iz (1))), (5, .int (iz (Z (58 + n)))), (0, .ref mm), (1, .int (iz (a))), (2, .int (iz (b))), (4, .int (iz (((n : Nat) : Int))))]) hx hb dX7_isPossible_99 rfl hl (by decide) rfl (fun ls hl => ?_)
              refine kz_iinc (b := ((n + 1 : Nat) : Int)) (lv' := [(4, .int (iz (((n + 1 : Nat) : Int)))), (3, .int (iz (1))), (5, .int (iz (Z (58 + n)))), (0, .ref mm), (1, .int (iz (a))), (2, .int (iz (b)))]) hx hb dX7_isPossible_100 hl (k := 5) rfl (by omega) (by decide) rfl (fun ls hl => ?_)
              refine lv_goto (tgt := 49) hx hb dX7_isPossible_103 (by decide) ?_
              exact ih49 (n + 1) 1 _ ⟨(by omega), (by omega), (by
    have hxx := hf3
    have hall : (∀ h : Nat, h < n + 1 → (a ≠ 0 ∨ -Z (58 + h) ≤ b) ∧ (a ≠ 1 ∨ Z (58 + h) ≤ b)) ↔ ((∀ h : Nat, h < n → (a ≠ 0 ∨ -Z (58 + h) ≤ b) ∧ (a ≠ 1 ∨ Z (58 + h) ≤ b)) ∧ (a ≠ 0 ∨ -Z (58 + n) ≤ b) ∧ (a ≠ 1 ∨ Z (58 + n) ≤ b)) := ⟨fun q => ⟨fun h hh => q h (by omega), q n (by omega)⟩, fun q h hh => by by_cases w : h = n; (subst w; exact q.2); exact q.1 h (by omega)⟩
    rw [hall]
    constructor
    · intro q; first | (exfalso; omega) | exact ⟨(hxx.1 (by omega)).1, (hxx.1 (by omega)).2, by omega⟩
    · intro q; first | rfl | (exfalso; have := hxx.2 ⟨q.1, q.2.1⟩; have := q.2.2; omega)), lv_sub hl [3, 4, 5, 1, 0] rfl⟩ (by omega)
            · refine lv_iload hx hb dX7_isPossible_88 (lv_at hl 0 rfl) ?_
              refine lv_iload_n hx hb dX7_isPossible_90 rfl (lv_at hl 3 rfl) ?_
              refine kz_icmp_gt (tgt := 98) hx hb dX7_isPossible_91 (by decide) (by omega) (by omega) (fun c91 => ?_) (fun c91 => ?_)
              · refine lv_iconst (v := iz (0)) hx hb dX7_isPossible_98 (by decide) ?_
                refine lv_istore_n (lv' := [(3, .int (iz (0))), (5, .int (iz (Z (58 + n)))), (0, .ref mm), (1, .int (iz (a))), (2, .int (iz (b))), (4, .int (iz (((n : Nat) : Int))))]) hx hb dX7_isPossible_99 rfl hl (by decide) rfl (fun ls hl => ?_)
                refine kz_iinc (b := ((n + 1 : Nat) : Int)) (lv' := [(4, .int (iz (((n + 1 : Nat) : Int)))), (3, .int (iz (0))), (5, .int (iz (Z (58 + n)))), (0, .ref mm), (1, .int (iz (a))), (2, .int (iz (b)))]) hx hb dX7_isPossible_100 hl (k := 5) rfl (by omega) (by decide) rfl (fun ls hl => ?_)
                refine lv_goto (tgt := 49) hx hb dX7_isPossible_103 (by decide) ?_
                exact ih49 (n + 1) 0 _ ⟨(by omega), (by omega), (by
    have hxx := hf3
    have hall : (∀ h : Nat, h < n + 1 → (a ≠ 0 ∨ -Z (58 + h) ≤ b) ∧ (a ≠ 1 ∨ Z (58 + h) ≤ b)) ↔ ((∀ h : Nat, h < n → (a ≠ 0 ∨ -Z (58 + h) ≤ b) ∧ (a ≠ 1 ∨ Z (58 + h) ≤ b)) ∧ (a ≠ 0 ∨ -Z (58 + n) ≤ b) ∧ (a ≠ 1 ∨ Z (58 + n) ≤ b)) := ⟨fun q => ⟨fun h hh => q h (by omega), q n (by omega)⟩, fun q h hh => by by_cases w : h = n; (subst w; exact q.2); exact q.1 h (by omega)⟩
    rw [hall]
    constructor
    · intro q; first | (exfalso; omega) | exact ⟨(hxx.1 (by omega)).1, (hxx.1 (by omega)).2, by omega⟩
    · intro q; first | rfl | (exfalso; have := hxx.2 ⟨q.1, q.2.1⟩; have := q.2.2; omega)), lv_sub hl [3, 4, 5, 1, 0] rfl⟩ (by omega)
              · refine lv_iconst (v := iz (1)) hx hb dX7_isPossible_94 (by decide) ?_
                refine lv_goto (tgt := 99) hx hb dX7_isPossible_95 (by decide) ?_
                refine lv_istore_n (lv' := [(3, .int (iz (1))), (5, .int (iz (Z (58 + n)))), (0, .ref mm), (1, .int (iz (a))), (2, .int (iz (b))), (4, .int (iz (((n : Nat) : Int))))]) hx hb dX7_isPossible_99 rfl hl (by decide) rfl (fun ls hl => ?_)
                refine kz_iinc (b := ((n + 1 : Nat) : Int)) (lv' := [(4, .int (iz (((n + 1 : Nat) : Int)))), (3, .int (iz (1))), (5, .int (iz (Z (58 + n)))), (0, .ref mm), (1, .int (iz (a))), (2, .int (iz (b)))]) hx hb dX7_isPossible_100 hl (k := 5) rfl (by omega) (by decide) rfl (fun ls hl => ?_)
                refine lv_goto (tgt := 49) hx hb dX7_isPossible_103 (by decide) ?_
                exact ih49 (n + 1) 1 _ ⟨(by omega), (by omega), (by
    have hxx := hf3
    have hall : (∀ h : Nat, h < n + 1 → (a ≠ 0 ∨ -Z (58 + h) ≤ b) ∧ (a ≠ 1 ∨ Z (58 + h) ≤ b)) ↔ ((∀ h : Nat, h < n → (a ≠ 0 ∨ -Z (58 + h) ≤ b) ∧ (a ≠ 1 ∨ Z (58 + h) ≤ b)) ∧ (a ≠ 0 ∨ -Z (58 + n) ≤ b) ∧ (a ≠ 1 ∨ Z (58 + n) ≤ b)) := ⟨fun q => ⟨fun h hh => q h (by omega), q n (by omega)⟩, fun q h hh => by by_cases w : h = n; (subst w; exact q.2); exact q.1 h (by omega)⟩
    rw [hall]
    constructor
    · intro q; first | (exfalso; omega) | exact ⟨(hxx.1 (by omega)).1, (hxx.1 (by omega)).2, by omega⟩
    · intro q; first | rfl | (exfalso; have := hxx.2 ⟨q.1, q.2.1⟩; have := q.2.2; omega)), lv_sub hl [3, 4, 5, 1, 0] rfl⟩ (by omega)
set_option maxHeartbeats 4000000 in
set_option maxRecDepth 100000 in
theorem c_X7_changes (l : Launch) (D : va_G) (T : Nat → ClassId) (sz : Nat) (mm : Nat) (nw : Nat) (pa : Nat) (kp : Int) (zl : Nat) (hd : Nat) (pd : Nat) (pn : Int) (at0 : Int) (os : Nat) (od : Int) (dn : Int) (pu : Int) (lo2 : Int) (sp2 : Int) (lv2 : Int) (wa : Int) (mt : Nat) (cn : Nat) (Z : Nat → Int) (kk : Nat) (hkk : kk < 82) (v : Int) : Met l yX7_changes wsX7_changes ({ frames := 0, cells := 0, slots := 0, locals := 0 }) (kPc D T [.ref mm, .int (iz (((kk : Nat) : Int))), .int (iz (v))] (kW D sz [(mm, .inr (7, [.ref nw, .ref pa, .int (iz (kp)), .ref zl, .ref hd, .ref pd, .int (iz (pn)), .int (iz (at0)), .ref os, .int (iz (od)), .int (iz (dn)), .int (iz (pu)), .int (iz (lo2)), .int (iz (sp2)), .int (iz (lv2)), .int (iz (wa)), .ref mt, .ref cn])), (nw, .inl (T 0, 115, .inl (zA (mz Z))))])) (va_Qi (fun (r : Int32) (u : Unit) => r = iz (Z kk)) (fun (u : Unit) (t : State) => va_P D vwCl [(mm, .inr (7, [.ref nw, .ref pa, .int (iz (kp)), .ref zl, .ref hd, .ref pd, .int (iz (pn)), .int (iz (at0)), .ref os, .int (iz (od)), .int (iz (dn)), .int (iz (pu)), .int (iz (lo2)), .int (iz (sp2)), .int (iz (lv2)), .int (iz (wa)), .ref mt, .ref cn])), (nw, .inl (T 0, 115, .inl (zA (mz (zup Z kk v)))))] t.heap) (va_A [(mm, .inr (7, [.ref nw, .ref pa, .int (iz (kp)), .ref zl, .ref hd, .ref pd, .int (iz (pn)), .int (iz (at0)), .ref os, .int (iz (od)), .int (iz (dn)), .int (iz (pu)), .int (iz (lo2)), .int (iz (sp2)), .int (iz (lv2)), .int (iz (wa)), .ref mt, .ref cn])), (nw, .inl (T 0, 115, .inl (zA (mz Z))))] sz)) 0 0 (va_A [(mm, .inr (7, [.ref nw, .ref pa, .int (iz (kp)), .ref zl, .ref hd, .ref pd, .int (iz (pn)), .int (iz (at0)), .ref os, .int (iz (od)), .int (iz (dn)), .int (iz (pu)), .int (iz (lo2)), .int (iz (sp2)), .int (iz (lv2)), .int (iz (wa)), .ref mt, .ref cn])), (nw, .inl (T 0, 115, .inl (zA (mz Z))))] sz) := by
  refine Met.ofW (cc := cX7_changes) (maxL := 4) (ret := (some .int)) (by decide) rfl ?_
  intro p e s m args below meth c s₁ B hml hv
  obtain ⟨rfl, hK, hsz, hP, hD0⟩ := hv
  have hx := B.exec
  have hb := B.bytes
  have hr := B.returns
  have hts := atoms_spec (ws := wsX7_changes) B.pre
  have hown : s.vm.findClass RX7 = some m.cls := findClass_of_methodNamed B.named
  have hlocks := B.notSynchronized
  have w0 := hts (.fieldLink RX7 7 "LakePlantModel" "now" "[I") (List.mem_of_getElem? (i := 1) rfl)
  have w1 : ∀ w ∈ wsX70, w ∈ wsX7_changes := by decide +kernel
  subst hsz
  have hD := hD0.self (sz := s.heap.size)
  generalize hAe : va_A [(mm, .inr (7, [.ref nw, .ref pa, .int (iz (kp)), .ref zl, .ref hd, .ref pd, .int (iz (pn)), .int (iz (at0)), .ref os, .int (iz (od)), .int (iz (dn)), .int (iz (pu)), .int (iz (lo2)), .int (iz (sp2)), .int (iz (lv2)), .int (iz (wa)), .ref mt, .ref cn])), (nw, .inl (T 0, 115, .inl (zA (mz Z))))] s.heap.size = A at hD ⊢
  have hA : ∀ q : Nat, s.heap.size ≤ q → A q := fun q h => by rw [← hAe]; exact Or.inr h
  have hS : va_S A s.heap s.heap [] := va_S.rf
  have hP : va_P D vwCl [(mm, .inr (7, [.ref nw, .ref pa, .int (iz (kp)), .ref zl, .ref hd, .ref pd, .int (iz (pn)), .int (iz (at0)), .ref os, .int (iz (od)), .int (iz (dn)), .int (iz (pu)), .int (iz (lo2)), .int (iz (sp2)), .int (iz (lv2)), .int (iz (wa)), .ref mt, .ref cn])), (nw, .inl (T 0, 115, .inl (zA (mz Z))))] s.heap := hP
  have hl := lv_entry ([.ref mm, .int (iz (((kk : Nat) : Int))), .int (iz (v))]) (n := 4) (Nat.le_of_ble_eq_true rfl)
  rw [lg_entry_eq]
  generalize (lg_sl ([.ref mm, .int (iz (((kk : Nat) : Int))), .int (iz (v))]) ++ List.replicate (4 - (lg_sl ([.ref mm, .int (iz (((kk : Nat) : Int))), .int (iz (v))])).length) Slot.unset).toArray = ls at hl ⊢
  have hl : lv_has ls 4 [(0, .ref mm), (1, .int (iz (((kk : Nat) : Int)))), (2, .int (iz (v)))] := hl
  refine lv_aload_n hx hb dX7_changes_0 rfl (lv_at hl 0 rfl) ?_
  refine va_get (D := D) (ci := 7) (C := RX7) (T := TX7) (N := 18) hx hb hts w1 hown hK.1 hP 0 rfl rfl 0 (by decide) w0 (fun _ h9 => h9) rfl dX7_changes_1 ?_
  refine lv_iload_n hx hb dX7_changes_4 rfl (lv_at hl 1 rfl) ?_
  refine kz_iald hx hb hK hP (1) rfl (kk) (by omega) (by omega) (by omega) dX7_changes_5 ?_
  refine kz_top (y := Z kk) (mz_lo (by omega)) ?_
  refine lv_istore_n (lv' := [(3, .int (iz (Z kk))), (0, .ref mm), (1, .int (iz (((kk : Nat) : Int)))), (2, .int (iz (v)))]) hx hb dX7_changes_6 rfl hl (by decide) rfl (fun ls hl => ?_)
  refine lv_aload_n hx hb dX7_changes_7 rfl (lv_at hl 1 rfl) ?_
  refine va_get (D := D) (ci := 7) (C := RX7) (T := TX7) (N := 18) hx hb hts w1 hown hK.1 hP 0 rfl rfl 0 (by decide) w0 (fun _ h9 => h9) rfl dX7_changes_8 ?_
  refine lv_iload_n hx hb dX7_changes_11 rfl (lv_at hl 2 rfl) ?_
  refine lv_iload_n hx hb dX7_changes_12 rfl (lv_at hl 3 rfl) ?_
  refine kz_iast hx hb hK hP hD hS (1) rfl (kk) (by omega) (by omega) (by omega) dX7_changes_13 (fun H locs hP hD hS => ?_)
  have hP : va_P D vwCl [(mm, .inr (7, [.ref nw, .ref pa, .int (iz (kp)), .ref zl, .ref hd, .ref pd, .int (iz (pn)), .int (iz (at0)), .ref os, .int (iz (od)), .int (iz (dn)), .int (iz (pu)), .int (iz (lo2)), .int (iz (sp2)), .int (iz (lv2)), .int (iz (wa)), .ref mt, .ref cn])), (nw, .inl (T 0, 115, .inl (zA (zup (mz Z) kk v))))] H := hP
  have hD : va_D A [(mm, .inr (7, [.ref nw, .ref pa, .int (iz (kp)), .ref zl, .ref hd, .ref pd, .int (iz (pn)), .int (iz (at0)), .ref os, .int (iz (od)), .int (iz (dn)), .int (iz (pu)), .int (iz (lo2)), .int (iz (sp2)), .int (iz (lv2)), .int (iz (wa)), .ref mt, .ref cn])), (nw, .inl (T 0, 115, .inl (zA (zup (mz Z) kk v))))] := hD
  have hZ : (zup (mz Z) kk v : Nat → Int) = mz (zup Z kk v) := (mz_up (by omega))
  have hP : va_P D vwCl [(mm, .inr (7, [.ref nw, .ref pa, .int (iz (kp)), .ref zl, .ref hd, .ref pd, .int (iz (pn)), .int (iz (at0)), .ref os, .int (iz (od)), .int (iz (dn)), .int (iz (pu)), .int (iz (lo2)), .int (iz (sp2)), .int (iz (lv2)), .int (iz (wa)), .ref mt, .ref cn])), (nw, .inl (T 0, 115, .inl (zA (mz (zup Z kk v)))))] H := by rw [← hZ]; exact hP
  have hD : va_D A [(mm, .inr (7, [.ref nw, .ref pa, .int (iz (kp)), .ref zl, .ref hd, .ref pd, .int (iz (pn)), .int (iz (at0)), .ref os, .int (iz (od)), .int (iz (dn)), .int (iz (pu)), .int (iz (lo2)), .int (iz (sp2)), .int (iz (lv2)), .int (iz (wa)), .ref mt, .ref cn])), (nw, .inl (T 0, 115, .inl (zA (mz (zup Z kk v)))))] := by rw [← hZ]; exact hD
  refine lv_iload_n hx hb dX7_changes_14 rfl (lv_at hl 0 rfl) ?_
  exact W.iret hx hb hr (fun t ht hW => ⟨⟨_, (), rfl, rfl, by show va_P _ _ _ t.heap; rw [ht]; exact hP⟩, hS.F ht⟩) hS.2.2 dX7_changes_15
set_option maxHeartbeats 4000000 in
set_option maxRecDepth 100000 in
theorem c_X7_set (l : Launch) (D : va_G) (T : Nat → ClassId) (sz : Nat) (mm : Nat) (nw : Nat) (pa : Nat) (kp : Int) (zl : Nat) (hd : Nat) (pd : Nat) (pn : Int) (at0 : Int) (os : Nat) (od : Int) (dn : Int) (pu : Int) (lo2 : Int) (sp2 : Int) (lv2 : Int) (wa : Int) (mt : Nat) (cn : Nat) (Z : Nat → Int) (a : Int) (b : Int) (hia : -2147483648 ≤ a ∧ a < 2147483648) (hib : -2147483648 ≤ b ∧ b < 2147483648) (F0_ : Nat → Int) (hkp : 0 ≤ kp ∧ kp ≤ 6) (hV : VL Z) : Met l yX7_set wsX7_set ({ frames := 2, cells := 0, slots := 0, locals := 45 }) (kPc D T [.ref mm, .int (iz (a)), .int (iz (b))] (kW D sz [(mm, .inr (7, [.ref nw, .ref pa, .int (iz (kp)), .ref zl, .ref hd, .ref pd, .int (iz (pn)), .int (iz (at0)), .ref os, .int (iz (od)), .int (iz (dn)), .int (iz (pu)), .int (iz (lo2)), .int (iz (sp2)), .int (iz (lv2)), .int (iz (wa)), .ref mt, .ref cn])), (nw, .inl (T 0, 115, .inl (zA (mz Z)))), (pa, .inl (T 0, 690, .inl (zA F0_)))])) (va_Qi (fun (r : Int32) (u : Unit) => r = iz (lk_rSet Z a b)) (fun (u : Unit) (t : State) => va_P D vwCl [(mm, .inr (7, [.ref nw, .ref pa, .int (iz (if ((0 ≤ a ∧ a < 10) ∧ 0 ≤ b ∧ b ≤ mvF a.toNat) ∧ lk_fb Z a b = true then rc_n kp else kp)), .ref zl, .ref hd, .ref pd, .int (iz (pn)), .int (iz (at0)), .ref os, .int (iz (od)), .int (iz (dn)), .int (iz (pu)), .int (iz (lo2)), .int (iz (sp2)), .int (iz (lv2)), .int (iz (wa)), .ref mt, .ref cn])), (nw, .inl (T 0, 115, .inl (zA (mz (lk_zSet Z a b))))), (pa, .inl (T 0, 690, .inl (zA (if ((0 ≤ a ∧ a < 10) ∧ 0 ≤ b ∧ b ≤ mvF a.toNat) ∧ lk_fb Z a b = true then rc_F F0_ kp (mz Z) else F0_))))] t.heap) (va_A [(mm, .inr (7, [.ref nw, .ref pa, .int (iz (kp)), .ref zl, .ref hd, .ref pd, .int (iz (pn)), .int (iz (at0)), .ref os, .int (iz (od)), .int (iz (dn)), .int (iz (pu)), .int (iz (lo2)), .int (iz (sp2)), .int (iz (lv2)), .int (iz (wa)), .ref mt, .ref cn])), (nw, .inl (T 0, 115, .inl (zA (mz Z)))), (pa, .inl (T 0, 690, .inl (zA F0_)))] sz)) 0 0 (va_A [(mm, .inr (7, [.ref nw, .ref pa, .int (iz (kp)), .ref zl, .ref hd, .ref pd, .int (iz (pn)), .int (iz (at0)), .ref os, .int (iz (od)), .int (iz (dn)), .int (iz (pu)), .int (iz (lo2)), .int (iz (sp2)), .int (iz (lv2)), .int (iz (wa)), .ref mt, .ref cn])), (nw, .inl (T 0, 115, .inl (zA (mz Z)))), (pa, .inl (T 0, 690, .inl (zA F0_)))] sz) := by
  refine Met.ofW (cc := cX7_set) (maxL := 3) (ret := (some .int)) (by decide) rfl ?_
  intro p e s m args below meth c s₁ B hml hv
  obtain ⟨rfl, hK, hsz, hP, hD0⟩ := hv
  have hx := B.exec
  have hb := B.bytes
  have hr := B.returns
  have hts := atoms_spec (ws := wsX7_set) B.pre
  have hown : s.vm.findClass RX7 = some m.cls := findClass_of_methodNamed B.named
  have hlocks := B.notSynchronized
  subst hsz
  have hD := hD0.self (sz := s.heap.size)
  generalize hAe : va_A [(mm, .inr (7, [.ref nw, .ref pa, .int (iz (kp)), .ref zl, .ref hd, .ref pd, .int (iz (pn)), .int (iz (at0)), .ref os, .int (iz (od)), .int (iz (dn)), .int (iz (pu)), .int (iz (lo2)), .int (iz (sp2)), .int (iz (lv2)), .int (iz (wa)), .ref mt, .ref cn])), (nw, .inl (T 0, 115, .inl (zA (mz Z)))), (pa, .inl (T 0, 690, .inl (zA F0_)))] s.heap.size = A at hD ⊢
  have hA : ∀ q : Nat, s.heap.size ≤ q → A q := fun q h => by rw [← hAe]; exact Or.inr h
  have hS : va_S A s.heap s.heap [] := va_S.rf
  have hP : va_P D vwCl [(mm, .inr (7, [.ref nw, .ref pa, .int (iz (kp)), .ref zl, .ref hd, .ref pd, .int (iz (pn)), .int (iz (at0)), .ref os, .int (iz (od)), .int (iz (dn)), .int (iz (pu)), .int (iz (lo2)), .int (iz (sp2)), .int (iz (lv2)), .int (iz (wa)), .ref mt, .ref cn])), (nw, .inl (T 0, 115, .inl (zA (mz Z)))), (pa, .inl (T 0, 690, .inl (zA F0_)))] s.heap := hP
  have hl := lv_entry ([.ref mm, .int (iz (a)), .int (iz (b))]) (n := 3) (Nat.le_of_ble_eq_true rfl)
  rw [lg_entry_eq]
  generalize (lg_sl ([.ref mm, .int (iz (a)), .int (iz (b))]) ++ List.replicate (3 - (lg_sl ([.ref mm, .int (iz (a)), .int (iz (b))])).length) Slot.unset).toArray = ls at hl ⊢
  have hl : lv_has ls 3 [(0, .ref mm), (1, .int (iz (a))), (2, .int (iz (b)))] := hl
  have hs := hV.1
  unfold VS at hs
  refine lv_iload_n hx hb dX7_set_0 rfl (lv_at hl 1 rfl) ?_
  refine lv_iconst (v := iz (0)) hx hb dX7_set_1 (by decide) ?_
  refine lv_bipush (v := iz (9)) hx hb dX7_set_2 (by decide) ?_
  refine kc_i (va_runS (As := [.int (iz (a)), .int (iz (0)), .int (iz (9))]) (rest := []) ⟨hx, hb, hml, hown, hts⟩ (c_X7_in l D T a 0 9 (by omega) (by omega) (by omega)) (va_cwS 3 hts gX7_set_X7_in rfl rfl rfl (by decide +kernel) ⟨Nat.le_of_ble_eq_true rfl, Nat.le_of_ble_eq_true rfl⟩) (kPc.s hK (kcut hP [] rfl)) rfl rfl hl.1 rfl (lv_room (Nat.le_of_ble_eq_true rfl)) dX7_set_4 ⟨Nat.zero_le _, Nat.zero_le _⟩) (fun r1 hr1 => ?_)
  subst hr1
  refine kz_if_eq (tgt := 18) hx hb dX7_set_7 (by decide) (by omega) (fun c7 => ?_) (fun c7 => ?_)
  · have hno : ¬ ((0 ≤ a ∧ a < 10) ∧ 0 ≤ b ∧ b ≤ mvF a.toNat) := by split at c7 <;> omega
    refine lv_bipush (v := iz (-2)) hx hb dX7_set_18 (by decide) ?_
    have hZ : (kp : Int) = if ((0 ≤ a ∧ a < 10) ∧ 0 ≤ b ∧ b ≤ mvF a.toNat) ∧ lk_fb Z a b = true then rc_n kp else kp := (by rw [if_neg (fun q => hno q.1)])
    have hP : va_P D vwCl [(mm, .inr (7, [.ref nw, .ref pa, .int (iz (if ((0 ≤ a ∧ a < 10) ∧ 0 ≤ b ∧ b ≤ mvF a.toNat) ∧ lk_fb Z a b = true then rc_n kp else kp)), .ref zl, .ref hd, .ref pd, .int (iz (pn)), .int (iz (at0)), .ref os, .int (iz (od)), .int (iz (dn)), .int (iz (pu)), .int (iz (lo2)), .int (iz (sp2)), .int (iz (lv2)), .int (iz (wa)), .ref mt, .ref cn])), (nw, .inl (T 0, 115, .inl (zA (mz Z)))), (pa, .inl (T 0, 690, .inl (zA F0_)))] s.heap := by rw [← hZ]; exact hP
    have hD : va_D A [(mm, .inr (7, [.ref nw, .ref pa, .int (iz (if ((0 ≤ a ∧ a < 10) ∧ 0 ≤ b ∧ b ≤ mvF a.toNat) ∧ lk_fb Z a b = true then rc_n kp else kp)), .ref zl, .ref hd, .ref pd, .int (iz (pn)), .int (iz (at0)), .ref os, .int (iz (od)), .int (iz (dn)), .int (iz (pu)), .int (iz (lo2)), .int (iz (sp2)), .int (iz (lv2)), .int (iz (wa)), .ref mt, .ref cn])), (nw, .inl (T 0, 115, .inl (zA (mz Z)))), (pa, .inl (T 0, 690, .inl (zA F0_)))] := by rw [← hZ]; exact hD
    have hZ : (mz Z : Nat → Int) = mz (lk_zSet Z a b) := (by first | rfl | (unfold lk_zSet; rw [if_neg (fun q => hno q.1)]))
    have hP : va_P D vwCl [(mm, .inr (7, [.ref nw, .ref pa, .int (iz (if ((0 ≤ a ∧ a < 10) ∧ 0 ≤ b ∧ b ≤ mvF a.toNat) ∧ lk_fb Z a b = true then rc_n kp else kp)), .ref zl, .ref hd, .ref pd, .int (iz (pn)), .int (iz (at0)), .ref os, .int (iz (od)), .int (iz (dn)), .int (iz (pu)), .int (iz (lo2)), .int (iz (sp2)), .int (iz (lv2)), .int (iz (wa)), .ref mt, .ref cn])), (nw, .inl (T 0, 115, .inl (zA (mz (lk_zSet Z a b))))), (pa, .inl (T 0, 690, .inl (zA F0_)))] s.heap := by rw [← hZ]; exact hP
    have hD : va_D A [(mm, .inr (7, [.ref nw, .ref pa, .int (iz (if ((0 ≤ a ∧ a < 10) ∧ 0 ≤ b ∧ b ≤ mvF a.toNat) ∧ lk_fb Z a b = true then rc_n kp else kp)), .ref zl, .ref hd, .ref pd, .int (iz (pn)), .int (iz (at0)), .ref os, .int (iz (od)), .int (iz (dn)), .int (iz (pu)), .int (iz (lo2)), .int (iz (sp2)), .int (iz (lv2)), .int (iz (wa)), .ref mt, .ref cn])), (nw, .inl (T 0, 115, .inl (zA (mz (lk_zSet Z a b))))), (pa, .inl (T 0, 690, .inl (zA F0_)))] := by rw [← hZ]; exact hD
    have hZ : (F0_ : Nat → Int) = if ((0 ≤ a ∧ a < 10) ∧ 0 ≤ b ∧ b ≤ mvF a.toNat) ∧ lk_fb Z a b = true then rc_F F0_ kp (mz Z) else F0_ := (by rw [if_neg (fun q => hno q.1)])
    have hP : va_P D vwCl [(mm, .inr (7, [.ref nw, .ref pa, .int (iz (if ((0 ≤ a ∧ a < 10) ∧ 0 ≤ b ∧ b ≤ mvF a.toNat) ∧ lk_fb Z a b = true then rc_n kp else kp)), .ref zl, .ref hd, .ref pd, .int (iz (pn)), .int (iz (at0)), .ref os, .int (iz (od)), .int (iz (dn)), .int (iz (pu)), .int (iz (lo2)), .int (iz (sp2)), .int (iz (lv2)), .int (iz (wa)), .ref mt, .ref cn])), (nw, .inl (T 0, 115, .inl (zA (mz (lk_zSet Z a b))))), (pa, .inl (T 0, 690, .inl (zA (if ((0 ≤ a ∧ a < 10) ∧ 0 ≤ b ∧ b ≤ mvF a.toNat) ∧ lk_fb Z a b = true then rc_F F0_ kp (mz Z) else F0_))))] s.heap := by rw [← hZ]; exact hP
    have hD : va_D A [(mm, .inr (7, [.ref nw, .ref pa, .int (iz (if ((0 ≤ a ∧ a < 10) ∧ 0 ≤ b ∧ b ≤ mvF a.toNat) ∧ lk_fb Z a b = true then rc_n kp else kp)), .ref zl, .ref hd, .ref pd, .int (iz (pn)), .int (iz (at0)), .ref os, .int (iz (od)), .int (iz (dn)), .int (iz (pu)), .int (iz (lo2)), .int (iz (sp2)), .int (iz (lv2)), .int (iz (wa)), .ref mt, .ref cn])), (nw, .inl (T 0, 115, .inl (zA (mz (lk_zSet Z a b))))), (pa, .inl (T 0, 690, .inl (zA (if ((0 ≤ a ∧ a < 10) ∧ 0 ≤ b ∧ b ≤ mvF a.toNat) ∧ lk_fb Z a b = true then rc_F F0_ kp (mz Z) else F0_))))] := by rw [← hZ]; exact hD
    exact W.iret hx hb hr (fun t ht hW => ⟨⟨_, (), rfl, (congrArg iz (by unfold lk_rSet; rw [if_neg hno])), by show va_P _ _ _ t.heap; rw [ht]; exact hP⟩, hS.F ht⟩) hS.2.2 dX7_set_20
  · have hi1 : 0 ≤ a ∧ a < 10 := by split at c7 <;> omega
    refine lv_iload_n hx hb dX7_set_10 rfl (lv_at hl 1 rfl) ?_
    refine lv_iload_n hx hb dX7_set_11 rfl (lv_at hl 2 rfl) ?_
    refine kc_i (va_runS (As := [.int (iz (a)), .int (iz (b))]) (rest := []) ⟨hx, hb, hml, hown, hts⟩ (c_X7_isFor l D T a b (by omega) (by omega)) (va_cwS 2 hts gX7_set_X7_isFor rfl rfl rfl (by decide +kernel) ⟨Nat.le_of_ble_eq_true rfl, Nat.le_of_ble_eq_true rfl⟩) (kPc.s hK (kcut hP [] rfl)) rfl rfl hl.1 rfl (lv_room (Nat.le_of_ble_eq_true rfl)) dX7_set_12 ⟨Nat.zero_le _, Nat.zero_le _⟩) (fun r2 hr2 => ?_)
    subst hr2
    refine kz_if_ne (tgt := 21) hx hb dX7_set_15 (by decide) (by omega) (fun c15 => ?_) (fun c15 => ?_)
    · have hin : (0 ≤ a ∧ a < 10) ∧ 0 ≤ b ∧ b ≤ mvF a.toNat := by split at c15 <;> omega
      have hmr := mvF_rng a.toNat
      refine lv_aload_n hx hb dX7_set_21 rfl (lv_at hl 0 rfl) ?_
      refine lv_iload_n hx hb dX7_set_22 rfl (lv_at hl 1 rfl) ?_
      refine lv_iload_n hx hb dX7_set_23 rfl (lv_at hl 2 rfl) ?_
      refine kc_i (va_runV (As := [.int (iz (a)), .int (iz (b))]) (rest := []) ⟨hx, hb, hml, hown, hts⟩ (c_X7_isPossible l D T mm nw pa kp zl hd pd pn at0 os od dn pu lo2 sp2 lv2 wa mt cn Z a b (by omega) (by omega) hV) (cwV 2 hts gX7_set_X7_isPossible rfl rfl rfl (by decide +kernel) ⟨Nat.le_of_ble_eq_true rfl, Nat.le_of_ble_eq_true rfl⟩) (kPc.v hK (va_recv hK.1 hP (ci := 7) (q0 := 0) rfl rfl) (kcut hP [0, 1] rfl)) rfl rfl hl.1 rfl (lv_room (Nat.le_of_ble_eq_true rfl)) dX7_set_24 ⟨Nat.zero_le _, Nat.zero_le _⟩) (fun r3 hr3 => ?_)
      subst hr3
      refine kz_if_ne (tgt := 33) hx hb dX7_set_27 (by decide) (by omega) (fun c27 => ?_) (fun c27 => ?_)
      · have hfb : lk_fb Z a b = true := by split at c27 <;> first | assumption | omega
        have hok : ((0 ≤ a ∧ a < 10) ∧ 0 ≤ b ∧ b ≤ mvF a.toNat) ∧ lk_fb Z a b = true := ⟨hin, hfb⟩
        refine lv_aload_n hx hb dX7_set_33 rfl (lv_at hl 0 rfl) ?_
        refine kc_wv (va_runV (As := []) (rest := []) ⟨hx, hb, hml, hown, hts⟩ (c_X7_records l D T s.heap.size mm nw pa kp zl hd pd pn at0 os od dn pu lo2 sp2 lv2 wa mt cn Z F0_ (by omega)) (cwV 0 hts gX7_set_X7_records rfl rfl rfl (by decide +kernel) ⟨Nat.le_of_ble_eq_true rfl, Nat.le_of_ble_eq_true rfl⟩) (kPc.v hK (va_recv hK.1 hP (ci := 7) (q0 := 0) rfl rfl) (kW.cut hP hD [0, 1, 2] rfl (by rfl))) rfl rfl hl.1 rfl (lv_room (Nat.le_of_ble_eq_true rfl)) dX7_set_34 ⟨Nat.zero_le _, Nat.zero_le _⟩) hP hD hS hA [0, 1, 2] rfl (fun _ => rfl) (fun u H locs hr4 hP hD hS => ?_)
        have hP : va_P D vwCl [(mm, .inr (7, [.ref nw, .ref pa, .int (iz (rc_n kp)), .ref zl, .ref hd, .ref pd, .int (iz (pn)), .int (iz (at0)), .ref os, .int (iz (od)), .int (iz (dn)), .int (iz (pu)), .int (iz (lo2)), .int (iz (sp2)), .int (iz (lv2)), .int (iz (wa)), .ref mt, .ref cn])), (nw, .inl (T 0, 115, .inl (zA (mz Z)))), (pa, .inl (T 0, 690, .inl (zA (rc_F F0_ kp (mz Z)))))] H := hP
        have hD : va_D A [(mm, .inr (7, [.ref nw, .ref pa, .int (iz (rc_n kp)), .ref zl, .ref hd, .ref pd, .int (iz (pn)), .int (iz (at0)), .ref os, .int (iz (od)), .int (iz (dn)), .int (iz (pu)), .int (iz (lo2)), .int (iz (sp2)), .int (iz (lv2)), .int (iz (wa)), .ref mt, .ref cn])), (nw, .inl (T 0, 115, .inl (zA (mz Z)))), (pa, .inl (T 0, 690, .inl (zA (rc_F F0_ kp (mz Z)))))] := hD
        refine lv_aload_n hx hb dX7_set_37 rfl (lv_at hl 0 rfl) ?_
        have hl : lv_has ls 3 [(0, .ref mm), (1, .int (iz (((a.toNat : Nat) : Int)))), (2, .int (iz (b)))] := by rw [← (show (a : Int) = ((a.toNat : Nat) : Int) from (by omega))]; exact hl
        refine lv_iload_n hx hb dX7_set_38 rfl (lv_at hl 1 rfl) ?_
        refine lv_iload_n hx hb dX7_set_39 rfl (lv_at hl 2 rfl) ?_
        refine kc_wi (va_runV (As := [.int (iz (((a.toNat : Nat) : Int))), .int (iz (b))]) (rest := []) ⟨hx, hb, hml, hown, hts⟩ (c_X7_changes l D T H.size mm nw pa (rc_n kp) zl hd pd pn at0 os od dn pu lo2 sp2 lv2 wa mt cn Z a.toNat (by omega) b) (cwV 2 hts gX7_set_X7_changes rfl rfl rfl (by decide +kernel) ⟨Nat.le_of_ble_eq_true rfl, Nat.le_of_ble_eq_true rfl⟩) (kPc.v hK (va_recv hK.1 hP (ci := 7) (q0 := 0) rfl rfl) (kW.cut hP hD [0, 1] rfl (by rfl))) rfl rfl hl.1 rfl (lv_room (Nat.le_of_ble_eq_true rfl)) dX7_set_40 ⟨Nat.zero_le _, Nat.zero_le _⟩) hP hD hS hA [0, 1] rfl (fun _ => rfl) (fun r5 u H locs hr5 hP hD hS => ?_)
        have hP : va_P D vwCl [(mm, .inr (7, [.ref nw, .ref pa, .int (iz ((rc_n kp))), .ref zl, .ref hd, .ref pd, .int (iz (pn)), .int (iz (at0)), .ref os, .int (iz (od)), .int (iz (dn)), .int (iz (pu)), .int (iz (lo2)), .int (iz (sp2)), .int (iz (lv2)), .int (iz (wa)), .ref mt, .ref cn])), (nw, .inl (T 0, 115, .inl (zA (mz (zup Z a.toNat b))))), (pa, .inl (T 0, 690, .inl (zA (rc_F F0_ kp (mz Z)))))] H := hP
        have hD : va_D A [(mm, .inr (7, [.ref nw, .ref pa, .int (iz ((rc_n kp))), .ref zl, .ref hd, .ref pd, .int (iz (pn)), .int (iz (at0)), .ref os, .int (iz (od)), .int (iz (dn)), .int (iz (pu)), .int (iz (lo2)), .int (iz (sp2)), .int (iz (lv2)), .int (iz (wa)), .ref mt, .ref cn])), (nw, .inl (T 0, 115, .inl (zA (mz (zup Z a.toNat b))))), (pa, .inl (T 0, 690, .inl (zA (rc_F F0_ kp (mz Z)))))] := hD
        subst hr5
        have hZ : ((rc_n kp) : Int) = if ((0 ≤ a ∧ a < 10) ∧ 0 ≤ b ∧ b ≤ mvF a.toNat) ∧ lk_fb Z a b = true then rc_n kp else kp := (by rw [if_pos hok])
        have hP : va_P D vwCl [(mm, .inr (7, [.ref nw, .ref pa, .int (iz (if ((0 ≤ a ∧ a < 10) ∧ 0 ≤ b ∧ b ≤ mvF a.toNat) ∧ lk_fb Z a b = true then rc_n kp else kp)), .ref zl, .ref hd, .ref pd, .int (iz (pn)), .int (iz (at0)), .ref os, .int (iz (od)), .int (iz (dn)), .int (iz (pu)), .int (iz (lo2)), .int (iz (sp2)), .int (iz (lv2)), .int (iz (wa)), .ref mt, .ref cn])), (nw, .inl (T 0, 115, .inl (zA (mz (zup Z a.toNat b))))), (pa, .inl (T 0, 690, .inl (zA (rc_F F0_ kp (mz Z)))))] H := by rw [← hZ]; exact hP
        have hD : va_D A [(mm, .inr (7, [.ref nw, .ref pa, .int (iz (if ((0 ≤ a ∧ a < 10) ∧ 0 ≤ b ∧ b ≤ mvF a.toNat) ∧ lk_fb Z a b = true then rc_n kp else kp)), .ref zl, .ref hd, .ref pd, .int (iz (pn)), .int (iz (at0)), .ref os, .int (iz (od)), .int (iz (dn)), .int (iz (pu)), .int (iz (lo2)), .int (iz (sp2)), .int (iz (lv2)), .int (iz (wa)), .ref mt, .ref cn])), (nw, .inl (T 0, 115, .inl (zA (mz (zup Z a.toNat b))))), (pa, .inl (T 0, 690, .inl (zA (rc_F F0_ kp (mz Z)))))] := by rw [← hZ]; exact hD
        have hZ : (mz (zup Z a.toNat b) : Nat → Int) = mz (lk_zSet Z a b) := (by first | rfl | (unfold lk_zSet; rw [if_pos hok]))
        have hP : va_P D vwCl [(mm, .inr (7, [.ref nw, .ref pa, .int (iz (if ((0 ≤ a ∧ a < 10) ∧ 0 ≤ b ∧ b ≤ mvF a.toNat) ∧ lk_fb Z a b = true then rc_n kp else kp)), .ref zl, .ref hd, .ref pd, .int (iz (pn)), .int (iz (at0)), .ref os, .int (iz (od)), .int (iz (dn)), .int (iz (pu)), .int (iz (lo2)), .int (iz (sp2)), .int (iz (lv2)), .int (iz (wa)), .ref mt, .ref cn])), (nw, .inl (T 0, 115, .inl (zA (mz (lk_zSet Z a b))))), (pa, .inl (T 0, 690, .inl (zA (rc_F F0_ kp (mz Z)))))] H := by rw [← hZ]; exact hP
        have hD : va_D A [(mm, .inr (7, [.ref nw, .ref pa, .int (iz (if ((0 ≤ a ∧ a < 10) ∧ 0 ≤ b ∧ b ≤ mvF a.toNat) ∧ lk_fb Z a b = true then rc_n kp else kp)), .ref zl, .ref hd, .ref pd, .int (iz (pn)), .int (iz (at0)), .ref os, .int (iz (od)), .int (iz (dn)), .int (iz (pu)), .int (iz (lo2)), .int (iz (sp2)), .int (iz (lv2)), .int (iz (wa)), .ref mt, .ref cn])), (nw, .inl (T 0, 115, .inl (zA (mz (lk_zSet Z a b))))), (pa, .inl (T 0, 690, .inl (zA (rc_F F0_ kp (mz Z)))))] := by rw [← hZ]; exact hD
        have hZ : (rc_F F0_ kp (mz Z) : Nat → Int) = if ((0 ≤ a ∧ a < 10) ∧ 0 ≤ b ∧ b ≤ mvF a.toNat) ∧ lk_fb Z a b = true then rc_F F0_ kp (mz Z) else F0_ := (by rw [if_pos hok])
        have hP : va_P D vwCl [(mm, .inr (7, [.ref nw, .ref pa, .int (iz (if ((0 ≤ a ∧ a < 10) ∧ 0 ≤ b ∧ b ≤ mvF a.toNat) ∧ lk_fb Z a b = true then rc_n kp else kp)), .ref zl, .ref hd, .ref pd, .int (iz (pn)), .int (iz (at0)), .ref os, .int (iz (od)), .int (iz (dn)), .int (iz (pu)), .int (iz (lo2)), .int (iz (sp2)), .int (iz (lv2)), .int (iz (wa)), .ref mt, .ref cn])), (nw, .inl (T 0, 115, .inl (zA (mz (lk_zSet Z a b))))), (pa, .inl (T 0, 690, .inl (zA (if ((0 ≤ a ∧ a < 10) ∧ 0 ≤ b ∧ b ≤ mvF a.toNat) ∧ lk_fb Z a b = true then rc_F F0_ kp (mz Z) else F0_))))] H := by rw [← hZ]; exact hP
        have hD : va_D A [(mm, .inr (7, [.ref nw, .ref pa, .int (iz (if ((0 ≤ a ∧ a < 10) ∧ 0 ≤ b ∧ b ≤ mvF a.toNat) ∧ lk_fb Z a b = true then rc_n kp else kp)), .ref zl, .ref hd, .ref pd, .int (iz (pn)), .int (iz (at0)), .ref os, .int (iz (od)), .int (iz (dn)), .int (iz (pu)), .int (iz (lo2)), .int (iz (sp2)), .int (iz (lv2)), .int (iz (wa)), .ref mt, .ref cn])), (nw, .inl (T 0, 115, .inl (zA (mz (lk_zSet Z a b))))), (pa, .inl (T 0, 690, .inl (zA (if ((0 ≤ a ∧ a < 10) ∧ 0 ≤ b ∧ b ≤ mvF a.toNat) ∧ lk_fb Z a b = true then rc_F F0_ kp (mz Z) else F0_))))] := by rw [← hZ]; exact hD
        exact W.iret hx hb hr (fun t ht hW => ⟨⟨_, (), rfl, (congrArg iz (by unfold lk_rSet; rw [if_pos hin, if_pos hfb])), by show va_P _ _ _ t.heap; rw [ht]; exact hP⟩, hS.F ht⟩) hS.2.2 dX7_set_43
      · have hfb : ¬ (lk_fb Z a b = true) := by split at c27 <;> omega
        have hno2 : ¬ (((0 ≤ a ∧ a < 10) ∧ 0 ≤ b ∧ b ≤ mvF a.toNat) ∧ lk_fb Z a b = true) := fun q => hfb q.2
        refine lv_bipush (v := iz (-5)) hx hb dX7_set_30 (by decide) ?_
        have hZ : (kp : Int) = if ((0 ≤ a ∧ a < 10) ∧ 0 ≤ b ∧ b ≤ mvF a.toNat) ∧ lk_fb Z a b = true then rc_n kp else kp := (by rw [if_neg hno2])
        have hP : va_P D vwCl [(mm, .inr (7, [.ref nw, .ref pa, .int (iz (if ((0 ≤ a ∧ a < 10) ∧ 0 ≤ b ∧ b ≤ mvF a.toNat) ∧ lk_fb Z a b = true then rc_n kp else kp)), .ref zl, .ref hd, .ref pd, .int (iz (pn)), .int (iz (at0)), .ref os, .int (iz (od)), .int (iz (dn)), .int (iz (pu)), .int (iz (lo2)), .int (iz (sp2)), .int (iz (lv2)), .int (iz (wa)), .ref mt, .ref cn])), (nw, .inl (T 0, 115, .inl (zA (mz Z)))), (pa, .inl (T 0, 690, .inl (zA F0_)))] s.heap := by rw [← hZ]; exact hP
        have hD : va_D A [(mm, .inr (7, [.ref nw, .ref pa, .int (iz (if ((0 ≤ a ∧ a < 10) ∧ 0 ≤ b ∧ b ≤ mvF a.toNat) ∧ lk_fb Z a b = true then rc_n kp else kp)), .ref zl, .ref hd, .ref pd, .int (iz (pn)), .int (iz (at0)), .ref os, .int (iz (od)), .int (iz (dn)), .int (iz (pu)), .int (iz (lo2)), .int (iz (sp2)), .int (iz (lv2)), .int (iz (wa)), .ref mt, .ref cn])), (nw, .inl (T 0, 115, .inl (zA (mz Z)))), (pa, .inl (T 0, 690, .inl (zA F0_)))] := by rw [← hZ]; exact hD
        have hZ : (mz Z : Nat → Int) = mz (lk_zSet Z a b) := (by first | rfl | (unfold lk_zSet; rw [if_neg hno2]))
        have hP : va_P D vwCl [(mm, .inr (7, [.ref nw, .ref pa, .int (iz (if ((0 ≤ a ∧ a < 10) ∧ 0 ≤ b ∧ b ≤ mvF a.toNat) ∧ lk_fb Z a b = true then rc_n kp else kp)), .ref zl, .ref hd, .ref pd, .int (iz (pn)), .int (iz (at0)), .ref os, .int (iz (od)), .int (iz (dn)), .int (iz (pu)), .int (iz (lo2)), .int (iz (sp2)), .int (iz (lv2)), .int (iz (wa)), .ref mt, .ref cn])), (nw, .inl (T 0, 115, .inl (zA (mz (lk_zSet Z a b))))), (pa, .inl (T 0, 690, .inl (zA F0_)))] s.heap := by rw [← hZ]; exact hP
        have hD : va_D A [(mm, .inr (7, [.ref nw, .ref pa, .int (iz (if ((0 ≤ a ∧ a < 10) ∧ 0 ≤ b ∧ b ≤ mvF a.toNat) ∧ lk_fb Z a b = true then rc_n kp else kp)), .ref zl, .ref hd, .ref pd, .int (iz (pn)), .int (iz (at0)), .ref os, .int (iz (od)), .int (iz (dn)), .int (iz (pu)), .int (iz (lo2)), .int (iz (sp2)), .int (iz (lv2)), .int (iz (wa)), .ref mt, .ref cn])), (nw, .inl (T 0, 115, .inl (zA (mz (lk_zSet Z a b))))), (pa, .inl (T 0, 690, .inl (zA F0_)))] := by rw [← hZ]; exact hD
        have hZ : (F0_ : Nat → Int) = if ((0 ≤ a ∧ a < 10) ∧ 0 ≤ b ∧ b ≤ mvF a.toNat) ∧ lk_fb Z a b = true then rc_F F0_ kp (mz Z) else F0_ := (by rw [if_neg hno2])
        have hP : va_P D vwCl [(mm, .inr (7, [.ref nw, .ref pa, .int (iz (if ((0 ≤ a ∧ a < 10) ∧ 0 ≤ b ∧ b ≤ mvF a.toNat) ∧ lk_fb Z a b = true then rc_n kp else kp)), .ref zl, .ref hd, .ref pd, .int (iz (pn)), .int (iz (at0)), .ref os, .int (iz (od)), .int (iz (dn)), .int (iz (pu)), .int (iz (lo2)), .int (iz (sp2)), .int (iz (lv2)), .int (iz (wa)), .ref mt, .ref cn])), (nw, .inl (T 0, 115, .inl (zA (mz (lk_zSet Z a b))))), (pa, .inl (T 0, 690, .inl (zA (if ((0 ≤ a ∧ a < 10) ∧ 0 ≤ b ∧ b ≤ mvF a.toNat) ∧ lk_fb Z a b = true then rc_F F0_ kp (mz Z) else F0_))))] s.heap := by rw [← hZ]; exact hP
        have hD : va_D A [(mm, .inr (7, [.ref nw, .ref pa, .int (iz (if ((0 ≤ a ∧ a < 10) ∧ 0 ≤ b ∧ b ≤ mvF a.toNat) ∧ lk_fb Z a b = true then rc_n kp else kp)), .ref zl, .ref hd, .ref pd, .int (iz (pn)), .int (iz (at0)), .ref os, .int (iz (od)), .int (iz (dn)), .int (iz (pu)), .int (iz (lo2)), .int (iz (sp2)), .int (iz (lv2)), .int (iz (wa)), .ref mt, .ref cn])), (nw, .inl (T 0, 115, .inl (zA (mz (lk_zSet Z a b))))), (pa, .inl (T 0, 690, .inl (zA (if ((0 ≤ a ∧ a < 10) ∧ 0 ≤ b ∧ b ≤ mvF a.toNat) ∧ lk_fb Z a b = true then rc_F F0_ kp (mz Z) else F0_))))] := by rw [← hZ]; exact hD
        exact W.iret hx hb hr (fun t ht hW => ⟨⟨_, (), rfl, (congrArg iz (by unfold lk_rSet; rw [if_pos hin, if_neg hfb])), by show va_P _ _ _ t.heap; rw [ht]; exact hP⟩, hS.F ht⟩) hS.2.2 dX7_set_32
    · have hno : ¬ ((0 ≤ a ∧ a < 10) ∧ 0 ≤ b ∧ b ≤ mvF a.toNat) := by split at c15 <;> omega
      refine lv_bipush (v := iz (-2)) hx hb dX7_set_18 (by decide) ?_
      have hZ : (kp : Int) = if ((0 ≤ a ∧ a < 10) ∧ 0 ≤ b ∧ b ≤ mvF a.toNat) ∧ lk_fb Z a b = true then rc_n kp else kp := (by rw [if_neg (fun q => hno q.1)])
      have hP : va_P D vwCl [(mm, .inr (7, [.ref nw, .ref pa, .int (iz (if ((0 ≤ a ∧ a < 10) ∧ 0 ≤ b ∧ b ≤ mvF a.toNat) ∧ lk_fb Z a b = true then rc_n kp else kp)), .ref zl, .ref hd, .ref pd, .int (iz (pn)), .int (iz (at0)), .ref os, .int (iz (od)), .int (iz (dn)), .int (iz (pu)), .int (iz (lo2)), .int (iz (sp2)), .int (iz (lv2)), .int (iz (wa)), .ref mt, .ref cn])), (nw, .inl (T 0, 115, .inl (zA (mz Z)))), (pa, .inl (T 0, 690, .inl (zA F0_)))] s.heap := by rw [← hZ]; exact hP
      have hD : va_D A [(mm, .inr (7, [.ref nw, .ref pa, .int (iz (if ((0 ≤ a ∧ a < 10) ∧ 0 ≤ b ∧ b ≤ mvF a.toNat) ∧ lk_fb Z a b = true then rc_n kp else kp)), .ref zl, .ref hd, .ref pd, .int (iz (pn)), .int (iz (at0)), .ref os, .int (iz (od)), .int (iz (dn)), .int (iz (pu)), .int (iz (lo2)), .int (iz (sp2)), .int (iz (lv2)), .int (iz (wa)), .ref mt, .ref cn])), (nw, .inl (T 0, 115, .inl (zA (mz Z)))), (pa, .inl (T 0, 690, .inl (zA F0_)))] := by rw [← hZ]; exact hD
      have hZ : (mz Z : Nat → Int) = mz (lk_zSet Z a b) := (by first | rfl | (unfold lk_zSet; rw [if_neg (fun q => hno q.1)]))
      have hP : va_P D vwCl [(mm, .inr (7, [.ref nw, .ref pa, .int (iz (if ((0 ≤ a ∧ a < 10) ∧ 0 ≤ b ∧ b ≤ mvF a.toNat) ∧ lk_fb Z a b = true then rc_n kp else kp)), .ref zl, .ref hd, .ref pd, .int (iz (pn)), .int (iz (at0)), .ref os, .int (iz (od)), .int (iz (dn)), .int (iz (pu)), .int (iz (lo2)), .int (iz (sp2)), .int (iz (lv2)), .int (iz (wa)), .ref mt, .ref cn])), (nw, .inl (T 0, 115, .inl (zA (mz (lk_zSet Z a b))))), (pa, .inl (T 0, 690, .inl (zA F0_)))] s.heap := by rw [← hZ]; exact hP
      have hD : va_D A [(mm, .inr (7, [.ref nw, .ref pa, .int (iz (if ((0 ≤ a ∧ a < 10) ∧ 0 ≤ b ∧ b ≤ mvF a.toNat) ∧ lk_fb Z a b = true then rc_n kp else kp)), .ref zl, .ref hd, .ref pd, .int (iz (pn)), .int (iz (at0)), .ref os, .int (iz (od)), .int (iz (dn)), .int (iz (pu)), .int (iz (lo2)), .int (iz (sp2)), .int (iz (lv2)), .int (iz (wa)), .ref mt, .ref cn])), (nw, .inl (T 0, 115, .inl (zA (mz (lk_zSet Z a b))))), (pa, .inl (T 0, 690, .inl (zA F0_)))] := by rw [← hZ]; exact hD
      have hZ : (F0_ : Nat → Int) = if ((0 ≤ a ∧ a < 10) ∧ 0 ≤ b ∧ b ≤ mvF a.toNat) ∧ lk_fb Z a b = true then rc_F F0_ kp (mz Z) else F0_ := (by rw [if_neg (fun q => hno q.1)])
      have hP : va_P D vwCl [(mm, .inr (7, [.ref nw, .ref pa, .int (iz (if ((0 ≤ a ∧ a < 10) ∧ 0 ≤ b ∧ b ≤ mvF a.toNat) ∧ lk_fb Z a b = true then rc_n kp else kp)), .ref zl, .ref hd, .ref pd, .int (iz (pn)), .int (iz (at0)), .ref os, .int (iz (od)), .int (iz (dn)), .int (iz (pu)), .int (iz (lo2)), .int (iz (sp2)), .int (iz (lv2)), .int (iz (wa)), .ref mt, .ref cn])), (nw, .inl (T 0, 115, .inl (zA (mz (lk_zSet Z a b))))), (pa, .inl (T 0, 690, .inl (zA (if ((0 ≤ a ∧ a < 10) ∧ 0 ≤ b ∧ b ≤ mvF a.toNat) ∧ lk_fb Z a b = true then rc_F F0_ kp (mz Z) else F0_))))] s.heap := by rw [← hZ]; exact hP
      have hD : va_D A [(mm, .inr (7, [.ref nw, .ref pa, .int (iz (if ((0 ≤ a ∧ a < 10) ∧ 0 ≤ b ∧ b ≤ mvF a.toNat) ∧ lk_fb Z a b = true then rc_n kp else kp)), .ref zl, .ref hd, .ref pd, .int (iz (pn)), .int (iz (at0)), .ref os, .int (iz (od)), .int (iz (dn)), .int (iz (pu)), .int (iz (lo2)), .int (iz (sp2)), .int (iz (lv2)), .int (iz (wa)), .ref mt, .ref cn])), (nw, .inl (T 0, 115, .inl (zA (mz (lk_zSet Z a b))))), (pa, .inl (T 0, 690, .inl (zA (if ((0 ≤ a ∧ a < 10) ∧ 0 ≤ b ∧ b ≤ mvF a.toNat) ∧ lk_fb Z a b = true then rc_F F0_ kp (mz Z) else F0_))))] := by rw [← hZ]; exact hD
      exact W.iret hx hb hr (fun t ht hW => ⟨⟨_, (), rfl, (congrArg iz (by unfold lk_rSet; rw [if_neg hno])), by show va_P _ _ _ t.heap; rw [ht]; exact hP⟩, hS.F ht⟩) hS.2.2 dX7_set_20
