set_option maxHeartbeats 4000000 in
set_option maxRecDepth 100000 in
theorem c_X7_highest (l : Launch) (D : va_G) (T : Nat → ClassId) (sz : Nat) (mm : Nat) (nw : Nat) (pa : Nat) (kp : Int) (zl : Nat) (hd : Nat) (pd : Nat) (pn : Int) (at0 : Int) (os : Nat) (od : Int) (dn : Int) (pu : Int) (lo2 : Int) (sp2 : Int) (lv2 : Int) (wa : Int) (mt : Nat) (cn : Nat) (Z : Nat → Int) (hV : VL Z) (C : Nat → Int) : Met l yX7_highest wsX7_highest ({ frames := 1, cells := 0, slots := 0, locals := 24 }) (kPc D T [.ref mm] (kW D sz [(mm, .inr (7, [.ref nw, .ref pa, .int (iz (kp)), .ref zl, .ref hd, .ref pd, .int (iz (pn)), .int (iz (at0)), .ref os, .int (iz (od)), .int (iz (dn)), .int (iz (pu)), .int (iz (lo2)), .int (iz (sp2)), .int (iz (lv2)), .int (iz (wa)), .ref mt, .ref cn])), (nw, .inl (T 0, 115, .inl (zA (mz Z)))), (cn, .inl (T 2, 402, .inl (zA C)))])) (va_Qi (fun (r : Int32) (u : Int × Int × Int × Int × Int × Int × (Nat → Int)) => r = iz (lk_top Z 24)) (fun (u : Int × Int × Int × Int × Int × Int × (Nat → Int)) (t : State) => va_P D vwCl [(mm, .inr (7, [.ref nw, .ref pa, .int (iz (kp)), .ref zl, .ref hd, .ref pd, .int (iz (pn)), .int (iz (at0)), .ref os, .int (iz (od)), .int (iz (u.1)), .int (iz (u.2.1)), .int (iz (u.2.2.1)), .int (iz (u.2.2.2.1)), .int (iz (u.2.2.2.2.1)), .int (iz (u.2.2.2.2.2.1)), .ref mt, .ref cn])), (nw, .inl (T 0, 115, .inl (zA (mz Z)))), (cn, .inl (T 2, 402, .inl (zA u.2.2.2.2.2.2)))] t.heap) (va_A [(mm, .inr (7, [.ref nw, .ref pa, .int (iz (kp)), .ref zl, .ref hd, .ref pd, .int (iz (pn)), .int (iz (at0)), .ref os, .int (iz (od)), .int (iz (dn)), .int (iz (pu)), .int (iz (lo2)), .int (iz (sp2)), .int (iz (lv2)), .int (iz (wa)), .ref mt, .ref cn])), (nw, .inl (T 0, 115, .inl (zA (mz Z)))), (cn, .inl (T 2, 402, .inl (zA C)))] sz)) 0 0 (va_A [(mm, .inr (7, [.ref nw, .ref pa, .int (iz (kp)), .ref zl, .ref hd, .ref pd, .int (iz (pn)), .int (iz (at0)), .ref os, .int (iz (od)), .int (iz (dn)), .int (iz (pu)), .int (iz (lo2)), .int (iz (sp2)), .int (iz (lv2)), .int (iz (wa)), .ref mt, .ref cn])), (nw, .inl (T 0, 115, .inl (zA (mz Z)))), (cn, .inl (T 2, 402, .inl (zA C)))] sz) := by
  refine Met.ofW (cc := cX7_highest) (maxL := 4) (ret := (some .int)) (by decide) rfl ?_
  intro p e s m args below meth c s₁ B hml hv
  obtain ⟨rfl, hK, hsz, hP, hD0⟩ := hv
  have hx := B.exec
  have hb := B.bytes
  have hr := B.returns
  have hts := atoms_spec (ws := wsX7_highest) B.pre
  have hown : s.vm.findClass RX7 = some m.cls := findClass_of_methodNamed B.named
  have hlocks := B.notSynchronized
  have w0 := hts (.fieldLink RX7 32 "LakePlantModel" "can" "[Z") (List.mem_of_getElem? (i := 1) rfl)
  have w1 : ∀ w ∈ wsX70, w ∈ wsX7_highest := by decide +kernel
  have w2 := hts (.fieldLink RX7 7 "LakePlantModel" "now" "[I") (List.mem_of_getElem? (i := 2) rfl)
  have w3 := hts (.fieldLink RX7 60 "LakePlantModel" "level" "I") (List.mem_of_getElem? (i := 3) rfl)
  subst hsz
  have hD := hD0.self (sz := s.heap.size)
  generalize hAe : va_A [(mm, .inr (7, [.ref nw, .ref pa, .int (iz (kp)), .ref zl, .ref hd, .ref pd, .int (iz (pn)), .int (iz (at0)), .ref os, .int (iz (od)), .int (iz (dn)), .int (iz (pu)), .int (iz (lo2)), .int (iz (sp2)), .int (iz (lv2)), .int (iz (wa)), .ref mt, .ref cn])), (nw, .inl (T 0, 115, .inl (zA (mz Z)))), (cn, .inl (T 2, 402, .inl (zA C)))] s.heap.size = A at hD ⊢
  have hA : ∀ q : Nat, s.heap.size ≤ q → A q := fun q h => by rw [← hAe]; exact Or.inr h
  have hS : va_S A s.heap s.heap [] := va_S.rf
  have hP : va_P D vwCl [(mm, .inr (7, [.ref nw, .ref pa, .int (iz (kp)), .ref zl, .ref hd, .ref pd, .int (iz (pn)), .int (iz (at0)), .ref os, .int (iz (od)), .int (iz (dn)), .int (iz (pu)), .int (iz (lo2)), .int (iz (sp2)), .int (iz (lv2)), .int (iz (wa)), .ref mt, .ref cn])), (nw, .inl (T 0, 115, .inl (zA (mz Z)))), (cn, .inl (T 2, 402, .inl (zA C)))] s.heap := hP
  have hl := lv_entry ([.ref mm]) (n := 4) (Nat.le_of_ble_eq_true rfl)
  rw [lg_entry_eq]
  generalize (lg_sl ([.ref mm]) ++ List.replicate (4 - (lg_sl ([.ref mm])).length) Slot.unset).toArray = ls at hl ⊢
  have hl : lv_has ls 4 [(0, .ref mm)] := hl
  have hs := hV.1
  unfold VS at hs
  have hto := lk_top_rng hV
  refine lv_iconst (v := iz (0)) hx hb dX7_highest_0 (by decide) ?_
  refine lv_istore_n (lv' := [(1, .int (iz (0))), (0, .ref mm)]) hx hb dX7_highest_1 rfl hl (by decide) rfl (fun ls hl => ?_)
  have hl : lv_has ls 4 [(1, .int (iz (((0 : Nat) : Int)))), (0, .ref mm)] := by rw [← (show (0 : Int) = ((0 : Nat) : Int) from (by first | rfl | omega))]; exact hl
  have hZ : (C : Nat → Int) = zmix 0 (fun i : Nat => if (i : Int) = Z 7 then 1 else 0) C := (zmix_0 _ _)
  have hP : va_P D vwCl [(mm, .inr (7, [.ref nw, .ref pa, .int (iz (kp)), .ref zl, .ref hd, .ref pd, .int (iz (pn)), .int (iz (at0)), .ref os, .int (iz (od)), .int (iz (dn)), .int (iz (pu)), .int (iz (lo2)), .int (iz (sp2)), .int (iz (lv2)), .int (iz (wa)), .ref mt, .ref cn])), (nw, .inl (T 0, 115, .inl (zA (mz Z)))), (cn, .inl (T 2, 402, .inl (zA (zmix 0 (fun i : Nat => if (i : Int) = Z 7 then 1 else 0) C))))] s.heap := by rw [← hZ]; exact hP
  have hD : va_D A [(mm, .inr (7, [.ref nw, .ref pa, .int (iz (kp)), .ref zl, .ref hd, .ref pd, .int (iz (pn)), .int (iz (at0)), .ref os, .int (iz (od)), .int (iz (dn)), .int (iz (pu)), .int (iz (lo2)), .int (iz (sp2)), .int (iz (lv2)), .int (iz (wa)), .ref mt, .ref cn])), (nw, .inl (T 0, 115, .inl (zA (mz Z)))), (cn, .inl (T 2, 402, .inl (zA (zmix 0 (fun i : Nat => if (i : Int) = Z 7 then 1 else 0) C))))] := by rw [← hZ]; exact hD
  refine kz_loopW1 (pc := 2) (I := fun (n : Nat) (H : Heap) (locs : List Loc) (ls : Array Slot) => (n ≤ 201) ∧ va_P D vwCl [(mm, .inr (7, [.ref nw, .ref pa, .int (iz (kp)), .ref zl, .ref hd, .ref pd, .int (iz (pn)), .int (iz (at0)), .ref os, .int (iz (od)), .int (iz (dn)), .int (iz (pu)), .int (iz (lo2)), .int (iz (sp2)), .int (iz (lv2)), .int (iz (wa)), .ref mt, .ref cn])), (nw, .inl (T 0, 115, .inl (zA (mz Z)))), (cn, .inl (T 2, 402, .inl (zA (zmix n (fun i : Nat => if (i : Int) = Z 7 then 1 else 0) C))))] H ∧ va_D A [(mm, .inr (7, [.ref nw, .ref pa, .int (iz (kp)), .ref zl, .ref hd, .ref pd, .int (iz (pn)), .int (iz (at0)), .ref os, .int (iz (od)), .int (iz (dn)), .int (iz (pu)), .int (iz (lo2)), .int (iz (sp2)), .int (iz (lv2)), .int (iz (wa)), .ref mt, .ref cn])), (nw, .inl (T 0, 115, .inl (zA (mz Z)))), (cn, .inl (T 2, 402, .inl (zA (zmix n (fun i : Nat => if (i : Int) = Z 7 then 1 else 0) C))))] ∧ va_S A s.heap H locs ∧ lv_has ls 4 [(0, .ref mm), (1, .int (iz (((n : Nat) : Int))))]) (μ := fun (n : Nat) => 201 - n) 0 ⟨(by omega), hP, hD, hS, lv_sub hl [1, 0] rfl⟩ ?_
  rintro n H locs ls ⟨hn, hP, hD, hS, hl⟩ ih2
  refine lv_iload_n hx hb dX7_highest_2 rfl (lv_at hl 1 rfl) ?_
  refine lv_sipush (v := iz (201)) hx hb dX7_highest_3 (by decide) ?_
  refine kz_icmp_ge (tgt := 37) hx hb dX7_highest_6 (by decide) (by omega) (by omega) (fun c6 => ?_) (fun c6 => ?_)
  · have hnn : n = 201 := by omega
    subst hnn
    have hl : lv_has ls 4 [(0, .ref mm), (1, .int (iz (((201 : Nat) : Int))))] := hl
    have hC0 : CN (lk_top Z 0) (zmix 201 (fun i : Nat => if (i : Int) = Z 7 then 1 else 0) C) 0 := ⟨fun i hi => by rw [Nat.zero_add, zmix_in (by omega)]; show (if (i : Int) = Z 7 then (1 : Int) else 0) = 0 ∨ (if (i : Int) = Z 7 then (1 : Int) else 0) = 1; split <;> omega, fun i hi q => by rw [Nat.zero_add, zmix_in (by omega)] at q; show (i : Int) ≤ Z 7; split at q <;> omega⟩
    have hC1 : (zmix 201 (fun i : Nat => if (i : Int) = Z 7 then 1 else 0) C) (lk_top Z 0).toNat = 1 := by rw [show lk_top Z 0 = Z 7 from rfl, zmix_in (by omega)]; exact if_pos (by omega)
    refine lv_iconst (v := iz (0)) hx hb dX7_highest_37 (by decide) ?_
    refine lv_istore_n (lv' := [(1, .int (iz (0))), (0, .ref mm)]) hx hb dX7_highest_38 rfl hl (by decide) rfl (fun ls hl => ?_)
    have hl : lv_has ls 4 [(1, .int (iz (((0 : Nat) : Int)))), (0, .ref mm)] := by rw [← (show (0 : Int) = ((0 : Nat) : Int) from (by first | rfl | omega))]; exact hl
    refine kz_loopW8 (pc := 39) (I := fun (k : Nat) (x1 : Int) (x2 : Int) (x3 : Int) (x4 : Int) (x5 : Int) (x6 : Int) (Wm : Nat → Int) (H : Heap) (locs : List Loc) (ls : Array Slot) => (k ≤ 24) ∧ (CN (lk_top Z k) Wm 0) ∧ (Wm (lk_top Z k).toNat = 1) ∧ va_P D vwCl [(mm, .inr (7, [.ref nw, .ref pa, .int (iz (kp)), .ref zl, .ref hd, .ref pd, .int (iz (pn)), .int (iz (at0)), .ref os, .int (iz (od)), .int (iz (x1)), .int (iz (x2)), .int (iz (x3)), .int (iz (x4)), .int (iz (x6)), .int (iz (x5)), .ref mt, .ref cn])), (nw, .inl (T 0, 115, .inl (zA (mz Z)))), (cn, .inl (T 2, 402, .inl (zA Wm)))] H ∧ va_D A [(mm, .inr (7, [.ref nw, .ref pa, .int (iz (kp)), .ref zl, .ref hd, .ref pd, .int (iz (pn)), .int (iz (at0)), .ref os, .int (iz (od)), .int (iz (x1)), .int (iz (x2)), .int (iz (x3)), .int (iz (x4)), .int (iz (x6)), .int (iz (x5)), .ref mt, .ref cn])), (nw, .inl (T 0, 115, .inl (zA (mz Z)))), (cn, .inl (T 2, 402, .inl (zA Wm)))] ∧ va_S A s.heap H locs ∧ lv_has ls 4 [(0, .ref mm), (1, .int (iz (((k : Nat) : Int))))]) (μ := fun (k : Nat) (x1 : Int) (x2 : Int) (x3 : Int) (x4 : Int) (x5 : Int) (x6 : Int) (Wm : Nat → Int) => 24 - k) 0 dn pu lo2 sp2 wa lv2 (zmix 201 (fun i : Nat => if (i : Int) = Z 7 then 1 else 0) C) ⟨(by omega), hC0, hC1, hP, hD, hS, lv_sub hl [1, 0] rfl⟩ ?_
    rintro k x1 x2 x3 x4 x5 x6 Wm H locs ls ⟨hk, hCN, hWt, hP, hD, hS, hl⟩ ih39
    have htk := hto k hk
    refine lv_iload_n hx hb dX7_highest_39 rfl (lv_at hl 1 rfl) ?_
    refine lv_bipush (v := iz (24)) hx hb dX7_highest_40 (by decide) ?_
    refine kz_icmp_ge (tgt := 177) hx hb dX7_highest_42 (by decide) (by omega) (by omega) (fun c42 => ?_) (fun c42 => ?_)
    · have hnn : k = 24 := by omega
      subst hnn
      have hl : lv_has ls 4 [(0, .ref mm), (1, .int (iz (((24 : Nat) : Int))))] := hl
      have ht24 := hto 24 (by omega)
      refine lv_iconst (v := iz (0)) hx hb dX7_highest_177 (by decide) ?_
      refine lv_istore_n (lv' := [(1, .int (iz (0))), (0, .ref mm)]) hx hb dX7_highest_178 rfl hl (by decide) rfl (fun ls hl => ?_)
      refine lv_iconst (v := iz (0)) hx hb dX7_highest_179 (by decide) ?_
      refine lv_istore_n (lv' := [(2, .int (iz (0))), (1, .int (iz (0))), (0, .ref mm)]) hx hb dX7_highest_180 rfl hl (by decide) rfl (fun ls hl => ?_)
      have hl : lv_has ls 4 [(2, .int (iz (((0 : Nat) : Int)))), (1, .int (iz (0))), (0, .ref mm)] := by rw [← (show (0 : Int) = ((0 : Nat) : Int) from (by first | rfl | omega))]; exact hl
      refine kz_loopW2 (pc := 181) (I := fun (j7 : Nat) (f7 : Int) (H : Heap) (locs : List Loc) (ls : Array Slot) => (j7 ≤ 201) ∧ ((0 ≤ f7 ∧ f7 ≤ 200) ∧ (lk_top Z 24 < (j7 : Int) → f7 = lk_top Z 24)) ∧ va_P D vwCl [(mm, .inr (7, [.ref nw, .ref pa, .int (iz (kp)), .ref zl, .ref hd, .ref pd, .int (iz (pn)), .int (iz (at0)), .ref os, .int (iz (od)), .int (iz (x1)), .int (iz (x2)), .int (iz (x3)), .int (iz (x4)), .int (iz (x6)), .int (iz (x5)), .ref mt, .ref cn])), (nw, .inl (T 0, 115, .inl (zA (mz Z)))), (cn, .inl (T 2, 402, .inl (zA Wm)))] H ∧ va_D A [(mm, .inr (7, [.ref nw, .ref pa, .int (iz (kp)), .ref zl, .ref hd, .ref pd, .int (iz (pn)), .int (iz (at0)), .ref os, .int (iz (od)), .int (iz (x1)), .int (iz (x2)), .int (iz (x3)), .int (iz (x4)), .int (iz (x6)), .int (iz (x5)), .ref mt, .ref cn])), (nw, .inl (T 0, 115, .inl (zA (mz Z)))), (cn, .inl (T 2, 402, .inl (zA Wm)))] ∧ va_S A s.heap H locs ∧ lv_has ls 4 [(0, .ref mm), (1, .int (iz (f7))), (2, .int (iz (((j7 : Nat) : Int))))]) (μ := fun (j7 : Nat) (f7 : Int) => 201 - j7) 0 0 ⟨(by omega), (by omega), hP, hD, hS, lv_sub hl [2, 1, 0] rfl⟩ ?_
      rintro j7 f7 H locs ls ⟨hj7, hf7, hP, hD, hS, hl⟩ ih181
      have hb8 := hCN.1 j7
      have hb9 := hCN.2 j7
      rw [Nat.zero_add] at hb8 hb9
      refine lv_iload_n hx hb dX7_highest_181 rfl (lv_at hl 2 rfl) ?_
      refine lv_sipush (v := iz (201)) hx hb dX7_highest_182 (by decide) ?_
      refine kz_icmp_ge (tgt := 209) hx hb dX7_highest_185 (by decide) (by omega) (by omega) (fun c185 => ?_) (fun c185 => ?_)
      · have hj72 : j7 = 201 := by omega
        refine lv_iload_n hx hb dX7_highest_209 rfl (lv_at hl 1 rfl) ?_
        exact W.iret hx hb hr (fun t ht hW => ⟨⟨_, (x1, x2, x3, x4, x6, x5, Wm), rfl, (congrArg iz (hf7.2 (by omega))), by show va_P _ _ _ t.heap; rw [ht]; exact hP⟩, hS.F ht⟩) hS.2.2 dX7_highest_210
      · refine lv_aload_n hx hb dX7_highest_188 rfl (lv_at hl 0 rfl) ?_
        refine va_get (D := D) (ci := 7) (C := RX7) (T := TX7) (N := 18) hx hb hts w1 hown hK.1 hP 0 rfl rfl 17 (by decide) w0 (fun _ h9 => h9) rfl dX7_highest_189 ?_
        refine lv_iload_n hx hb dX7_highest_192 rfl (lv_at hl 2 rfl) ?_
        refine kz_zald hx hb hK hP (2) rfl (j7) (by omega) (by omega) (by omega) dX7_highest_193 ?_
        refine kz_if_eq (tgt := 201) hx hb dX7_highest_194 (by decide) (by omega) (fun c194 => ?_) (fun c194 => ?_)
        · have hb11 : (j7 : Int) ≠ lk_top Z 24 := fun w => by rw [← w, show (j7 : Int).toNat = j7 by omega] at hWt; omega
          refine lv_iload_n hx hb dX7_highest_201 rfl (lv_at hl 1 rfl) ?_
          refine lv_istore_n (lv' := [(1, .int (iz (f7))), (0, .ref mm), (2, .int (iz (((j7 : Nat) : Int))))]) hx hb dX7_highest_202 rfl hl (by decide) rfl (fun ls hl => ?_)
          refine kz_iinc (b := ((j7 + 1 : Nat) : Int)) (lv' := [(2, .int (iz (((j7 + 1 : Nat) : Int)))), (1, .int (iz (f7))), (0, .ref mm)]) hx hb dX7_highest_203 hl (k := 2) rfl (by omega) (by decide) rfl (fun ls hl => ?_)
          refine lv_goto (tgt := 181) hx hb dX7_highest_206 (by decide) ?_
          exact ih181 (j7 + 1) f7 _ _ _ ⟨(by omega), (by omega), hP, hD, hS, lv_sub hl [2, 1, 0] rfl⟩ (by omega)
        · have hb10 := hb9 (by omega) (by omega)
          refine lv_iload_n hx hb dX7_highest_197 rfl (lv_at hl 2 rfl) ?_
          refine lv_goto (tgt := 202) hx hb dX7_highest_198 (by decide) ?_
          refine lv_istore_n (lv' := [(1, .int (iz (((j7 : Nat) : Int)))), (0, .ref mm), (2, .int (iz (((j7 : Nat) : Int))))]) hx hb dX7_highest_202 rfl hl (by decide) rfl (fun ls hl => ?_)
          refine kz_iinc (b := ((j7 + 1 : Nat) : Int)) (lv' := [(2, .int (iz (((j7 + 1 : Nat) : Int)))), (1, .int (iz (((j7 : Nat) : Int)))), (0, .ref mm)]) hx hb dX7_highest_203 hl (k := 2) rfl (by omega) (by decide) rfl (fun ls hl => ?_)
          refine lv_goto (tgt := 181) hx hb dX7_highest_206 (by decide) ?_
          exact ih181 (j7 + 1) ((j7 : Nat) : Int) _ _ _ ⟨(by omega), (by omega), hP, hD, hS, lv_sub hl [2, 1, 0] rfl⟩ (by omega)
    · have hk24 : k < 24 := by omega
      have htk1 := hto (k + 1) (by omega)
      have etk : lk_top Z (k + 1) = lk_behind Z k (lk_top Z k) (-(Z 0)) := rfl
      refine lv_iconst (v := iz (0)) hx hb dX7_highest_45 (by decide) ?_
      refine lv_istore_n (lv' := [(2, .int (iz (0))), (0, .ref mm), (1, .int (iz (((k : Nat) : Int))))]) hx hb dX7_highest_46 rfl hl (by decide) rfl (fun ls hl => ?_)
      have hl : lv_has ls 4 [(2, .int (iz (((0 : Nat) : Int)))), (0, .ref mm), (1, .int (iz (((k : Nat) : Int))))] := by rw [← (show (0 : Int) = ((0 : Nat) : Int) from (by first | rfl | omega))]; exact hl
      refine kz_loopW2 (pc := 47) (I := fun (j : Nat) (W2 : Nat → Int) (H : Heap) (locs : List Loc) (ls : Array Slot) => (j ≤ 201) ∧ (∀ i : Nat, i < j → W2 (201 + i) = 0) ∧ (∀ i : Nat, i ≤ 200 → W2 i = Wm i) ∧ va_P D vwCl [(mm, .inr (7, [.ref nw, .ref pa, .int (iz (kp)), .ref zl, .ref hd, .ref pd, .int (iz (pn)), .int (iz (at0)), .ref os, .int (iz (od)), .int (iz (x1)), .int (iz (x2)), .int (iz (x3)), .int (iz (x4)), .int (iz (x6)), .int (iz (x5)), .ref mt, .ref cn])), (nw, .inl (T 0, 115, .inl (zA (mz Z)))), (cn, .inl (T 2, 402, .inl (zA W2)))] H ∧ va_D A [(mm, .inr (7, [.ref nw, .ref pa, .int (iz (kp)), .ref zl, .ref hd, .ref pd, .int (iz (pn)), .int (iz (at0)), .ref os, .int (iz (od)), .int (iz (x1)), .int (iz (x2)), .int (iz (x3)), .int (iz (x4)), .int (iz (x6)), .int (iz (x5)), .ref mt, .ref cn])), (nw, .inl (T 0, 115, .inl (zA (mz Z)))), (cn, .inl (T 2, 402, .inl (zA W2)))] ∧ va_S A s.heap H locs ∧ lv_has ls 4 [(0, .ref mm), (1, .int (iz (((k : Nat) : Int)))), (2, .int (iz (((j : Nat) : Int))))]) (μ := fun (j : Nat) (W2 : Nat → Int) => 201 - j) 0 Wm ⟨(by omega), (fun i hi => absurd hi (Nat.not_lt_zero i)), (fun i _ => rfl), hP, hD, hS, lv_sub hl [1, 2, 0] rfl⟩ ?_
      rintro j W2 H locs ls ⟨hj, hz0, hsm, hP, hD, hS, hl⟩ ih47
      refine lv_iload_n hx hb dX7_highest_47 rfl (lv_at hl 2 rfl) ?_
      refine lv_sipush (v := iz (201)) hx hb dX7_highest_48 (by decide) ?_
      refine kz_icmp_ge (tgt := 71) hx hb dX7_highest_51 (by decide) (by omega) (by omega) (fun c51 => ?_) (fun c51 => ?_)
      · have hj2 : j = 201 := by omega
        refine lv_iconst (v := iz (0)) hx hb dX7_highest_71 (by decide) ?_
        refine lv_istore_n (lv' := [(2, .int (iz (0))), (0, .ref mm), (1, .int (iz (((k : Nat) : Int))))]) hx hb dX7_highest_72 rfl hl (by decide) rfl (fun ls hl => ?_)
        have hl : lv_has ls 4 [(2, .int (iz (((0 : Nat) : Int)))), (0, .ref mm), (1, .int (iz (((k : Nat) : Int))))] := by rw [← (show (0 : Int) = ((0 : Nat) : Int) from (by first | rfl | omega))]; exact hl
        refine kz_loopW8 (pc := 73) (I := fun (j3 : Nat) (v1 : Int) (v2 : Int) (v3 : Int) (v4 : Int) (v5 : Int) (v6 : Int) (W3 : Nat → Int) (H : Heap) (locs : List Loc) (ls : Array Slot) => (j3 ≤ 201) ∧ (∀ i : Nat, i ≤ 200 → W3 i = Wm i) ∧ (CN (lk_top Z (k + 1)) W3 201) ∧ (lk_top Z k < (j3 : Int) → W3 (201 + (lk_top Z (k + 1)).toNat) = 1) ∧ va_P D vwCl [(mm, .inr (7, [.ref nw, .ref pa, .int (iz (kp)), .ref zl, .ref hd, .ref pd, .int (iz (pn)), .int (iz (at0)), .ref os, .int (iz (od)), .int (iz (v1)), .int (iz (v2)), .int (iz (v3)), .int (iz (v4)), .int (iz (v6)), .int (iz (v5)), .ref mt, .ref cn])), (nw, .inl (T 0, 115, .inl (zA (mz Z)))), (cn, .inl (T 2, 402, .inl (zA W3)))] H ∧ va_D A [(mm, .inr (7, [.ref nw, .ref pa, .int (iz (kp)), .ref zl, .ref hd, .ref pd, .int (iz (pn)), .int (iz (at0)), .ref os, .int (iz (od)), .int (iz (v1)), .int (iz (v2)), .int (iz (v3)), .int (iz (v4)), .int (iz (v6)), .int (iz (v5)), .ref mt, .ref cn])), (nw, .inl (T 0, 115, .inl (zA (mz Z)))), (cn, .inl (T 2, 402, .inl (zA W3)))] ∧ va_S A s.heap H locs ∧ lv_has ls 4 [(0, .ref mm), (1, .int (iz (((k : Nat) : Int)))), (2, .int (iz (((j3 : Nat) : Int))))]) (μ := fun (j3 : Nat) (v1 : Int) (v2 : Int) (v3 : Int) (v4 : Int) (v5 : Int) (v6 : Int) (W3 : Nat → Int) => 201 - j3) 0 x1 x2 x3 x4 x5 x6 W2 ⟨(by omega), hsm, ⟨fun i hi => Or.inl (hz0 i (by omega)), fun i hi q => by rw [hz0 i (by omega)] at q; omega⟩, (by omega), hP, hD, hS, lv_sub hl [1, 2, 0] rfl⟩ ?_
        rintro j3 v1 v2 v3 v4 v5 v6 W3 H locs ls ⟨hj3, hsm3, hC3, ht3, hP, hD, hS, hl⟩ ih73
        refine lv_iload_n hx hb dX7_highest_73 rfl (lv_at hl 2 rfl) ?_
        refine lv_sipush (v := iz (201)) hx hb dX7_highest_74 (by decide) ?_
        refine kz_icmp_ge (tgt := 140) hx hb dX7_highest_77 (by decide) (by omega) (by omega) (fun c77 => ?_) (fun c77 => ?_)
        · refine lv_iconst (v := iz (0)) hx hb dX7_highest_140 (by decide) ?_
          refine lv_istore_n (lv' := [(2, .int (iz (0))), (0, .ref mm), (1, .int (iz (((k : Nat) : Int))))]) hx hb dX7_highest_141 rfl hl (by decide) rfl (fun ls hl => ?_)
          have hl : lv_has ls 4 [(2, .int (iz (((0 : Nat) : Int)))), (0, .ref mm), (1, .int (iz (((k : Nat) : Int))))] := by rw [← (show (0 : Int) = ((0 : Nat) : Int) from (by first | rfl | omega))]; exact hl
          refine kz_loopW2 (pc := 142) (I := fun (j6 : Nat) (W6 : Nat → Int) (H : Heap) (locs : List Loc) (ls : Array Slot) => (j6 ≤ 201) ∧ (CN (lk_top Z (k + 1)) W6 201) ∧ (W6 (201 + (lk_top Z (k + 1)).toNat) = 1) ∧ (∀ i : Nat, i < j6 → W6 i = W6 (201 + i)) ∧ va_P D vwCl [(mm, .inr (7, [.ref nw, .ref pa, .int (iz (kp)), .ref zl, .ref hd, .ref pd, .int (iz (pn)), .int (iz (at0)), .ref os, .int (iz (od)), .int (iz (v1)), .int (iz (v2)), .int (iz (v3)), .int (iz (v4)), .int (iz (v6)), .int (iz (v5)), .ref mt, .ref cn])), (nw, .inl (T 0, 115, .inl (zA (mz Z)))), (cn, .inl (T 2, 402, .inl (zA W6)))] H ∧ va_D A [(mm, .inr (7, [.ref nw, .ref pa, .int (iz (kp)), .ref zl, .ref hd, .ref pd, .int (iz (pn)), .int (iz (at0)), .ref os, .int (iz (od)), .int (iz (v1)), .int (iz (v2)), .int (iz (v3)), .int (iz (v4)), .int (iz (v6)), .int (iz (v5)), .ref mt, .ref cn])), (nw, .inl (T 0, 115, .inl (zA (mz Z)))), (cn, .inl (T 2, 402, .inl (zA W6)))] ∧ va_S A s.heap H locs ∧ lv_has ls 4 [(0, .ref mm), (1, .int (iz (((k : Nat) : Int)))), (2, .int (iz (((j6 : Nat) : Int))))]) (μ := fun (j6 : Nat) (W6 : Nat → Int) => 201 - j6) 0 W3 ⟨(by omega), hC3, (ht3 (by omega)), (fun i hi => absurd hi (Nat.not_lt_zero i)), hP, hD, hS, lv_sub hl [1, 2, 0] rfl⟩ ?_
          rintro j6 W6 H locs ls ⟨hj6, hCC, hCt, hcp, hP, hD, hS, hl⟩ ih142
          have hb7 := hCC.1 j6
          refine lv_iload_n hx hb dX7_highest_142 rfl (lv_at hl 2 rfl) ?_
          refine lv_sipush (v := iz (201)) hx hb dX7_highest_143 (by decide) ?_
          refine kz_icmp_ge (tgt := 171) hx hb dX7_highest_146 (by decide) (by omega) (by omega) (fun c146 => ?_) (fun c146 => ?_)
          · have hj62 : j6 = 201 := by omega
            refine kz_iinc (b := ((k + 1 : Nat) : Int)) (lv' := [(1, .int (iz (((k + 1 : Nat) : Int)))), (0, .ref mm), (2, .int (iz (((j6 : Nat) : Int))))]) hx hb dX7_highest_171 hl (k := 1) rfl (by omega) (by decide) rfl (fun ls hl => ?_)
            refine lv_goto (tgt := 39) hx hb dX7_highest_174 (by decide) ?_
            exact ih39 (k + 1) v1 v2 v3 v4 v5 v6 W6 _ _ _ ⟨(by omega), ⟨fun i hi => by have := hcp i (by omega); have := hCC.1 i hi; rw [Nat.zero_add]; omega, fun i hi q => by rw [Nat.zero_add] at q; exact hCC.2 i hi (by have := hcp i (by omega); omega)⟩, (by have := hcp (lk_top Z (k + 1)).toNat (by omega); omega), hP, hD, hS, lv_sub hl [1, 0] rfl⟩ (by omega)
          · refine lv_aload_n hx hb dX7_highest_149 rfl (lv_at hl 0 rfl) ?_
            refine va_get (D := D) (ci := 7) (C := RX7) (T := TX7) (N := 18) hx hb hts w1 hown hK.1 hP 0 rfl rfl 17 (by decide) w0 (fun _ h9 => h9) rfl dX7_highest_150 ?_
            refine lv_iload_n hx hb dX7_highest_153 rfl (lv_at hl 2 rfl) ?_
            refine lv_aload_n hx hb dX7_highest_154 rfl (lv_at hl 0 rfl) ?_
            refine va_get (D := D) (ci := 7) (C := RX7) (T := TX7) (N := 18) hx hb hts w1 hown hK.1 hP 0 rfl rfl 17 (by decide) w0 (fun _ h9 => h9) rfl dX7_highest_155 ?_
            refine lv_sipush (v := iz (201)) hx hb dX7_highest_158 (by decide) ?_
            refine lv_iload_n hx hb dX7_highest_161 rfl (lv_at hl 2 rfl) ?_
            refine kz_add hx hb dX7_highest_162 ?_
            refine kz_zald hx hb hK hP (2) rfl (201 + j6) (by omega) (by omega) (by omega) dX7_highest_163 ?_
            refine kz_zast hx hb hK hP hD hS (2) rfl (j6) (by omega) (by omega) (by omega) (by omega) dX7_highest_164 (fun H locs hP hD hS => ?_)
            have hP : va_P D vwCl [(mm, .inr (7, [.ref nw, .ref pa, .int (iz (kp)), .ref zl, .ref hd, .ref pd, .int (iz (pn)), .int (iz (at0)), .ref os, .int (iz (od)), .int (iz (v1)), .int (iz (v2)), .int (iz (v3)), .int (iz (v4)), .int (iz (v6)), .int (iz (v5)), .ref mt, .ref cn])), (nw, .inl (T 0, 115, .inl (zA (mz Z)))), (cn, .inl (T 2, 402, .inl (zA (zup W6 j6 (W6 (201 + j6))))))] H := hP
            have hD : va_D A [(mm, .inr (7, [.ref nw, .ref pa, .int (iz (kp)), .ref zl, .ref hd, .ref pd, .int (iz (pn)), .int (iz (at0)), .ref os, .int (iz (od)), .int (iz (v1)), .int (iz (v2)), .int (iz (v3)), .int (iz (v4)), .int (iz (v6)), .int (iz (v5)), .ref mt, .ref cn])), (nw, .inl (T 0, 115, .inl (zA (mz Z)))), (cn, .inl (T 2, 402, .inl (zA (zup W6 j6 (W6 (201 + j6))))))] := hD
            refine kz_iinc (b := ((j6 + 1 : Nat) : Int)) (lv' := [(2, .int (iz (((j6 + 1 : Nat) : Int)))), (0, .ref mm), (1, .int (iz (((k : Nat) : Int))))]) hx hb dX7_highest_165 hl (k := 2) rfl (by omega) (by decide) rfl (fun ls hl => ?_)
            refine lv_goto (tgt := 142) hx hb dX7_highest_168 (by decide) ?_
            exact ih142 (j6 + 1) (zup W6 j6 (W6 (201 + j6))) _ _ _ ⟨(by omega), (hCC.off (by omega)), (by unfold zup; rw [if_neg (by omega)]; exact hCt), (fun i hi => by unfold zup; rw [if_neg (show ¬ 201 + i = j6 by omega)]; split; (rename_i e; rw [e]); exact hcp i (by omega)), hP, hD, hS, lv_sub hl [1, 2, 0] rfl⟩ (by omega)
        · refine lv_aload_n hx hb dX7_highest_80 rfl (lv_at hl 0 rfl) ?_
          refine va_get (D := D) (ci := 7) (C := RX7) (T := TX7) (N := 18) hx hb hts w1 hown hK.1 hP 0 rfl rfl 0 (by decide) w2 (fun _ h9 => h9) rfl dX7_highest_81 ?_
          refine lv_iconst (v := iz (0)) hx hb dX7_highest_84 (by decide) ?_
          refine kz_iald hx hb hK hP (1) rfl (0) (by omega) (by omega) (by omega) dX7_highest_85 ?_
          refine kz_top (y := Z 0) (mz_lo (by omega)) ?_
          refine kz_neg hx hb dX7_highest_86 ?_
          refine lv_istore_n (lv' := [(3, .int (iz (-(Z 0)))), (0, .ref mm), (1, .int (iz (((k : Nat) : Int)))), (2, .int (iz (((j3 : Nat) : Int))))]) hx hb dX7_highest_87 rfl hl (by decide) rfl (fun ls hl => ?_)
          have hl : lv_has ls 4 [(3, .int (iz (-(Z 0) + ((0 : Nat) : Int)))), (0, .ref mm), (1, .int (iz (((k : Nat) : Int)))), (2, .int (iz (((j3 : Nat) : Int))))] := by rw [← (show (-(Z 0) : Int) = -(Z 0) + ((0 : Nat) : Int) from (by omega))]; exact hl
          refine kz_loopW8 (pc := 88) (I := fun (q : Nat) (g1 : Int) (g2 : Int) (g3 : Int) (g4 : Int) (g5 : Int) (g6 : Int) (W4 : Nat → Int) (H : Heap) (locs : List Loc) (ls : Array Slot) => ((q : Int) ≤ Z 0 + Z 1 + 1) ∧ (∀ i : Nat, i ≤ 200 → W4 i = Wm i) ∧ (CN (lk_top Z (k + 1)) W4 201) ∧ (lk_top Z k < (j3 : Int) ∨ (lk_top Z k = (j3 : Int) ∧ 0 < q) → W4 (201 + (lk_top Z (k + 1)).toNat) = 1) ∧ va_P D vwCl [(mm, .inr (7, [.ref nw, .ref pa, .int (iz (kp)), .ref zl, .ref hd, .ref pd, .int (iz (pn)), .int (iz (at0)), .ref os, .int (iz (od)), .int (iz (g1)), .int (iz (g2)), .int (iz (g3)), .int (iz (g4)), .int (iz (g6)), .int (iz (g5)), .ref mt, .ref cn])), (nw, .inl (T 0, 115, .inl (zA (mz Z)))), (cn, .inl (T 2, 402, .inl (zA W4)))] H ∧ va_D A [(mm, .inr (7, [.ref nw, .ref pa, .int (iz (kp)), .ref zl, .ref hd, .ref pd, .int (iz (pn)), .int (iz (at0)), .ref os, .int (iz (od)), .int (iz (g1)), .int (iz (g2)), .int (iz (g3)), .int (iz (g4)), .int (iz (g6)), .int (iz (g5)), .ref mt, .ref cn])), (nw, .inl (T 0, 115, .inl (zA (mz Z)))), (cn, .inl (T 2, 402, .inl (zA W4)))] ∧ va_S A s.heap H locs ∧ lv_has ls 4 [(0, .ref mm), (1, .int (iz (((k : Nat) : Int)))), (2, .int (iz (((j3 : Nat) : Int)))), (3, .int (iz (-(Z 0) + ((q : Nat) : Int))))]) (μ := fun (q : Nat) (g1 : Int) (g2 : Int) (g3 : Int) (g4 : Int) (g5 : Int) (g6 : Int) (W4 : Nat → Int) => 61 - q) 0 v1 v2 v3 v4 v5 v6 W3 ⟨(by omega), hsm3, hC3, (by omega), hP, hD, hS, lv_sub hl [1, 2, 3, 0] rfl⟩ ?_
          rintro q g1 g2 g3 g4 g5 g6 W4 H locs ls ⟨hq, hsm4, hC4, ht4, hP, hD, hS, hl⟩ ih88
          have hb4 := hsm4 j3 (by omega)
          have hb5 := hCN.1 j3 (by omega)
          have hb6 := hCN.2 j3 (by omega)
          rw [Nat.zero_add] at hb5 hb6
          refine lv_iload_n hx hb dX7_highest_88 rfl (lv_at hl 3 rfl) ?_
          refine lv_aload_n hx hb dX7_highest_89 rfl (lv_at hl 0 rfl) ?_
          refine va_get (D := D) (ci := 7) (C := RX7) (T := TX7) (N := 18) hx hb hts w1 hown hK.1 hP 0 rfl rfl 0 (by decide) w2 (fun _ h9 => h9) rfl dX7_highest_90 ?_
          refine lv_iconst (v := iz (1)) hx hb dX7_highest_93 (by decide) ?_
          refine kz_iald hx hb hK hP (1) rfl (1) (by omega) (by omega) (by omega) dX7_highest_94 ?_
          refine kz_top (y := Z 1) (mz_lo (by omega)) ?_
          refine kz_icmp_gt (tgt := 134) hx hb dX7_highest_95 (by decide) (by omega) (by omega) (fun c95 => ?_) (fun c95 => ?_)
          · have hex : lk_top Z k < ((j3 + 1 : Nat) : Int) → W4 (201 + (lk_top Z (k + 1)).toNat) = 1 := fun w => ht4 (by omega)
            refine kz_iinc (b := ((j3 + 1 : Nat) : Int)) (lv' := [(2, .int (iz (((j3 + 1 : Nat) : Int)))), (0, .ref mm), (1, .int (iz (((k : Nat) : Int)))), (3, .int (iz (-(Z 0) + ((q : Nat) : Int))))]) hx hb dX7_highest_134 hl (k := 2) rfl (by omega) (by decide) rfl (fun ls hl => ?_)
            refine lv_goto (tgt := 73) hx hb dX7_highest_137 (by decide) ?_
            exact ih73 (j3 + 1) g1 g2 g3 g4 g5 g6 W4 _ _ _ ⟨(by omega), hsm4, hC4, hex, hP, hD, hS, lv_sub hl [1, 2, 0] rfl⟩ (by omega)
          · refine lv_aload_n hx hb dX7_highest_98 rfl (lv_at hl 0 rfl) ?_
            refine va_get (D := D) (ci := 7) (C := RX7) (T := TX7) (N := 18) hx hb hts w1 hown hK.1 hP 0 rfl rfl 17 (by decide) w0 (fun _ h9 => h9) rfl dX7_highest_99 ?_
            refine lv_iload_n hx hb dX7_highest_102 rfl (lv_at hl 2 rfl) ?_
            refine kz_zald hx hb hK hP (2) rfl (j3) (by omega) (by omega) (by omega) dX7_highest_103 ?_
            refine kz_if_eq (tgt := 134) hx hb dX7_highest_104 (by decide) (by omega) (fun c104 => ?_) (fun c104 => ?_)
            · have hex : lk_top Z k < ((j3 + 1 : Nat) : Int) → W4 (201 + (lk_top Z (k + 1)).toNat) = 1 := fun w => by
                  by_cases w3 : lk_top Z k = (j3 : Int)
                  · exfalso
                    rw [w3, show (j3 : Int).toNat = j3 by omega] at hWt
                    omega
                  · exact ht4 (by omega)
              refine kz_iinc (b := ((j3 + 1 : Nat) : Int)) (lv' := [(2, .int (iz (((j3 + 1 : Nat) : Int)))), (0, .ref mm), (1, .int (iz (((k : Nat) : Int)))), (3, .int (iz (-(Z 0) + ((q : Nat) : Int))))]) hx hb dX7_highest_134 hl (k := 2) rfl (by omega) (by decide) rfl (fun ls hl => ?_)
              refine lv_goto (tgt := 73) hx hb dX7_highest_137 (by decide) ?_
              exact ih73 (j3 + 1) g1 g2 g3 g4 g5 g6 W4 _ _ _ ⟨(by omega), hsm4, hC4, hex, hP, hD, hS, lv_sub hl [1, 2, 0] rfl⟩ (by omega)
            · refine lv_aload_n hx hb dX7_highest_107 rfl (lv_at hl 0 rfl) ?_
              refine lv_iload_n hx hb dX7_highest_108 rfl (lv_at hl 1 rfl) ?_
              refine lv_iload_n hx hb dX7_highest_109 rfl (lv_at hl 2 rfl) ?_
              refine lv_iload_n hx hb dX7_highest_110 rfl (lv_at hl 3 rfl) ?_
              refine kc_wv (va_runV (As := [.int (iz (((k : Nat) : Int))), .int (iz (((j3 : Nat) : Int))), .int (iz (-(Z 0) + ((q : Nat) : Int)))]) (rest := []) ⟨hx, hb, hml, hown, hts⟩ (c_X7_goes l D T H.size mm nw pa kp zl hd pd pn at0 os od g1 g2 g3 g4 g6 g5 mt cn Z k (by omega) ((j3 : Nat) : Int) (by omega) (-(Z 0) + ((q : Nat) : Int)) (by omega) hV) (cwV 3 hts gX7_highest_X7_goes rfl rfl rfl (by decide +kernel) ⟨Nat.le_of_ble_eq_true rfl, Nat.le_of_ble_eq_true rfl⟩) (kPc.v hK (va_recv hK.1 hP (ci := 7) (q0 := 0) rfl rfl) (kW.cut hP hD [0, 1] rfl (by rfl))) rfl rfl hl.1 rfl (lv_room (Nat.le_of_ble_eq_true rfl)) dX7_highest_111 ⟨Nat.zero_le _, Nat.zero_le _⟩) hP hD hS hA [0, 1] rfl (fun _ => rfl) (fun u H locs hr1 hP hD hS => ?_)
              have hP : va_P D vwCl [(mm, .inr (7, [.ref nw, .ref pa, .int (iz (kp)), .ref zl, .ref hd, .ref pd, .int (iz (pn)), .int (iz (at0)), .ref os, .int (iz (od)), .int (iz (hr_dn Z k ((j3 : Nat) : Int) (-(Z 0) + ((q : Nat) : Int)))), .int (iz (lk_pump (-(Z 0) + ((q : Nat) : Int)))), .int (iz (lk_loss Z (lk_pump (-(Z 0) + ((q : Nat) : Int))))), .int (iz (hr_sp Z k ((j3 : Nat) : Int) (-(Z 0) + ((q : Nat) : Int)))), .int (iz (hr_lv Z k ((j3 : Nat) : Int) (-(Z 0) + ((q : Nat) : Int)))), .int (iz (lk_want Z (-(Z 0) + ((q : Nat) : Int)))), .ref mt, .ref cn])), (nw, .inl (T 0, 115, .inl (zA (mz Z)))), (cn, .inl (T 2, 402, .inl (zA W4)))] H := hP
              have hD : va_D A [(mm, .inr (7, [.ref nw, .ref pa, .int (iz (kp)), .ref zl, .ref hd, .ref pd, .int (iz (pn)), .int (iz (at0)), .ref os, .int (iz (od)), .int (iz (hr_dn Z k ((j3 : Nat) : Int) (-(Z 0) + ((q : Nat) : Int)))), .int (iz (lk_pump (-(Z 0) + ((q : Nat) : Int)))), .int (iz (lk_loss Z (lk_pump (-(Z 0) + ((q : Nat) : Int))))), .int (iz (hr_sp Z k ((j3 : Nat) : Int) (-(Z 0) + ((q : Nat) : Int)))), .int (iz (hr_lv Z k ((j3 : Nat) : Int) (-(Z 0) + ((q : Nat) : Int)))), .int (iz (lk_want Z (-(Z 0) + ((q : Nat) : Int)))), .ref mt, .ref cn])), (nw, .inl (T 0, 115, .inl (zA (mz Z)))), (cn, .inl (T 2, 402, .inl (zA W4)))] := hD
              have hmo := tp_mono hV k (a := (j3 : Int)) (b := lk_top Z k) (u := -(Z 0) + ((q : Nat) : Int)) (by omega) (by omega)
              have hgr := hr_rng hV hk24 (lev := (j3 : Int)) (by omega) (u := -(Z 0) + ((q : Nat) : Int)) (by omega)
              have elv := hr_lv_eq Z k (j3 : Int) (-(Z 0) + ((q : Nat) : Int))
              have hup : lk_top Z k < (j3 : Int) ∨ (lk_top Z k = (j3 : Int) ∧ 0 < q + 1) → zup W4 (201 + (hr_lv Z k (j3 : Int) (-(Z 0) + ((q : Nat) : Int))).toNat) 1 (201 + (lk_top Z (k + 1)).toNat) = 1 := fun w => by
                  unfold zup
                  split
                  · rfl
                  · rename_i wj
                    refine ht4 ?_
                    by_cases w3 : q = 0
                    · exfalso
                      have e4 : lk_top Z k = (j3 : Int) := by omega
                      apply wj
                      rw [elv, w3, etk, e4, show -(Z 0) + ((0 : Nat) : Int) = -(Z 0) by omega]
                    · omega
              refine lv_aload_n hx hb dX7_highest_114 rfl (lv_at hl 0 rfl) ?_
              refine va_get (D := D) (ci := 7) (C := RX7) (T := TX7) (N := 18) hx hb hts w1 hown hK.1 hP 0 rfl rfl 17 (by decide) w0 (fun _ h9 => h9) rfl dX7_highest_115 ?_
              refine lv_sipush (v := iz (201)) hx hb dX7_highest_118 (by decide) ?_
              refine lv_aload_n hx hb dX7_highest_121 rfl (lv_at hl 0 rfl) ?_
              refine va_get (D := D) (ci := 7) (C := RX7) (T := TX7) (N := 18) hx hb hts w1 hown hK.1 hP 0 rfl rfl 14 (by decide) w3 (fun _ h9 => h9) rfl dX7_highest_122 ?_
              refine kz_add hx hb dX7_highest_125 ?_
              refine lv_iconst (v := iz (1)) hx hb dX7_highest_126 (by decide) ?_
              refine kz_zast hx hb hK hP hD hS (2) rfl (201 + (hr_lv Z k (j3 : Int) (-(Z 0) + ((q : Nat) : Int))).toNat) (by omega) (by omega) (by omega) (by omega) dX7_highest_127 (fun H locs hP hD hS => ?_)
              have hP : va_P D vwCl [(mm, .inr (7, [.ref nw, .ref pa, .int (iz (kp)), .ref zl, .ref hd, .ref pd, .int (iz (pn)), .int (iz (at0)), .ref os, .int (iz (od)), .int (iz (hr_dn Z k ((j3 : Nat) : Int) (-(Z 0) + ((q : Nat) : Int)))), .int (iz (lk_pump (-(Z 0) + ((q : Nat) : Int)))), .int (iz (lk_loss Z (lk_pump (-(Z 0) + ((q : Nat) : Int))))), .int (iz (hr_sp Z k ((j3 : Nat) : Int) (-(Z 0) + ((q : Nat) : Int)))), .int (iz (hr_lv Z k ((j3 : Nat) : Int) (-(Z 0) + ((q : Nat) : Int)))), .int (iz (lk_want Z (-(Z 0) + ((q : Nat) : Int)))), .ref mt, .ref cn])), (nw, .inl (T 0, 115, .inl (zA (mz Z)))), (cn, .inl (T 2, 402, .inl (zA (zup W4 (201 + (hr_lv Z k (j3 : Int) (-(Z 0) + ((q : Nat) : Int))).toNat) 1))))] H := hP
              have hD : va_D A [(mm, .inr (7, [.ref nw, .ref pa, .int (iz (kp)), .ref zl, .ref hd, .ref pd, .int (iz (pn)), .int (iz (at0)), .ref os, .int (iz (od)), .int (iz (hr_dn Z k ((j3 : Nat) : Int) (-(Z 0) + ((q : Nat) : Int)))), .int (iz (lk_pump (-(Z 0) + ((q : Nat) : Int)))), .int (iz (lk_loss Z (lk_pump (-(Z 0) + ((q : Nat) : Int))))), .int (iz (hr_sp Z k ((j3 : Nat) : Int) (-(Z 0) + ((q : Nat) : Int)))), .int (iz (hr_lv Z k ((j3 : Nat) : Int) (-(Z 0) + ((q : Nat) : Int)))), .int (iz (lk_want Z (-(Z 0) + ((q : Nat) : Int)))), .ref mt, .ref cn])), (nw, .inl (T 0, 115, .inl (zA (mz Z)))), (cn, .inl (T 2, 402, .inl (zA (zup W4 (201 + (hr_lv Z k (j3 : Int) (-(Z 0) + ((q : Nat) : Int))).toNat) 1))))] := hD
              refine kz_iinc (b := (-(Z 0) + ((q : Nat) : Int)) + 1) (lv' := [(3, .int (iz ((-(Z 0) + ((q : Nat) : Int)) + 1))), (0, .ref mm), (1, .int (iz (((k : Nat) : Int)))), (2, .int (iz (((j3 : Nat) : Int))))]) hx hb dX7_highest_128 hl (k := 3) rfl (by omega) (by decide) rfl (fun ls hl => ?_)
              refine lv_goto (tgt := 88) hx hb dX7_highest_131 (by decide) ?_
              have hl : lv_has ls 4 [(3, .int (iz (-(Z 0) + ((q + 1 : Nat) : Int)))), (0, .ref mm), (1, .int (iz (((k : Nat) : Int)))), (2, .int (iz (((j3 : Nat) : Int))))] := by rw [← (show ((-(Z 0) + ((q : Nat) : Int)) + 1 : Int) = -(Z 0) + ((q + 1 : Nat) : Int) from (by omega))]; exact hl
              have hZ : (hr_dn Z k ((j3 : Nat) : Int) (-(Z 0) + ((q : Nat) : Int)) : Int) = (hr_dn Z k ((j3 : Nat) : Int) (-(Z 0) + ((q : Nat) : Int))) := (by first | rfl | omega)
              have hP : va_P D vwCl [(mm, .inr (7, [.ref nw, .ref pa, .int (iz (kp)), .ref zl, .ref hd, .ref pd, .int (iz (pn)), .int (iz (at0)), .ref os, .int (iz (od)), .int (iz ((hr_dn Z k ((j3 : Nat) : Int) (-(Z 0) + ((q : Nat) : Int))))), .int (iz (lk_pump (-(Z 0) + ((q : Nat) : Int)))), .int (iz (lk_loss Z (lk_pump (-(Z 0) + ((q : Nat) : Int))))), .int (iz (hr_sp Z k ((j3 : Nat) : Int) (-(Z 0) + ((q : Nat) : Int)))), .int (iz (hr_lv Z k ((j3 : Nat) : Int) (-(Z 0) + ((q : Nat) : Int)))), .int (iz (lk_want Z (-(Z 0) + ((q : Nat) : Int)))), .ref mt, .ref cn])), (nw, .inl (T 0, 115, .inl (zA (mz Z)))), (cn, .inl (T 2, 402, .inl (zA (zup W4 (201 + (hr_lv Z k (j3 : Int) (-(Z 0) + ((q : Nat) : Int))).toNat) 1))))] H := by rw [← hZ]; exact hP
              have hD : va_D A [(mm, .inr (7, [.ref nw, .ref pa, .int (iz (kp)), .ref zl, .ref hd, .ref pd, .int (iz (pn)), .int (iz (at0)), .ref os, .int (iz (od)), .int (iz ((hr_dn Z k ((j3 : Nat) : Int) (-(Z 0) + ((q : Nat) : Int))))), .int (iz (lk_pump (-(Z 0) + ((q : Nat) : Int)))), .int (iz (lk_loss Z (lk_pump (-(Z 0) + ((q : Nat) : Int))))), .int (iz (hr_sp Z k ((j3 : Nat) : Int) (-(Z 0) + ((q : Nat) : Int)))), .int (iz (hr_lv Z k ((j3 : Nat) : Int) (-(Z 0) + ((q : Nat) : Int)))), .int (iz (lk_want Z (-(Z 0) + ((q : Nat) : Int)))), .ref mt, .ref cn])), (nw, .inl (T 0, 115, .inl (zA (mz Z)))), (cn, .inl (T 2, 402, .inl (zA (zup W4 (201 + (hr_lv Z k (j3 : Int) (-(Z 0) + ((q : Nat) : Int))).toNat) 1))))] := by rw [← hZ]; exact hD
              have hZ : (lk_pump (-(Z 0) + ((q : Nat) : Int)) : Int) = (lk_pump (-(Z 0) + ((q : Nat) : Int))) := (by first | rfl | omega)
              have hP : va_P D vwCl [(mm, .inr (7, [.ref nw, .ref pa, .int (iz (kp)), .ref zl, .ref hd, .ref pd, .int (iz (pn)), .int (iz (at0)), .ref os, .int (iz (od)), .int (iz ((hr_dn Z k ((j3 : Nat) : Int) (-(Z 0) + ((q : Nat) : Int))))), .int (iz ((lk_pump (-(Z 0) + ((q : Nat) : Int))))), .int (iz (lk_loss Z (lk_pump (-(Z 0) + ((q : Nat) : Int))))), .int (iz (hr_sp Z k ((j3 : Nat) : Int) (-(Z 0) + ((q : Nat) : Int)))), .int (iz (hr_lv Z k ((j3 : Nat) : Int) (-(Z 0) + ((q : Nat) : Int)))), .int (iz (lk_want Z (-(Z 0) + ((q : Nat) : Int)))), .ref mt, .ref cn])), (nw, .inl (T 0, 115, .inl (zA (mz Z)))), (cn, .inl (T 2, 402, .inl (zA (zup W4 (201 + (hr_lv Z k (j3 : Int) (-(Z 0) + ((q : Nat) : Int))).toNat) 1))))] H := by rw [← hZ]; exact hP
              have hD : va_D A [(mm, .inr (7, [.ref nw, .ref pa, .int (iz (kp)), .ref zl, .ref hd, .ref pd, .int (iz (pn)), .int (iz (at0)), .ref os, .int (iz (od)), .int (iz ((hr_dn Z k ((j3 : Nat) : Int) (-(Z 0) + ((q : Nat) : Int))))), .int (iz ((lk_pump (-(Z 0) + ((q : Nat) : Int))))), .int (iz (lk_loss Z (lk_pump (-(Z 0) + ((q : Nat) : Int))))), .int (iz (hr_sp Z k ((j3 : Nat) : Int) (-(Z 0) + ((q : Nat) : Int)))), .int (iz (hr_lv Z k ((j3 : Nat) : Int) (-(Z 0) + ((q : Nat) : Int)))), .int (iz (lk_want Z (-(Z 0) + ((q : Nat) : Int)))), .ref mt, .ref cn])), (nw, .inl (T 0, 115, .inl (zA (mz Z)))), (cn, .inl (T 2, 402, .inl (zA (zup W4 (201 + (hr_lv Z k (j3 : Int) (-(Z 0) + ((q : Nat) : Int))).toNat) 1))))] := by rw [← hZ]; exact hD
              have hZ : (lk_loss Z (lk_pump (-(Z 0) + ((q : Nat) : Int))) : Int) = (lk_loss Z (lk_pump (-(Z 0) + ((q : Nat) : Int)))) := (by first | rfl | omega)
              have hP : va_P D vwCl [(mm, .inr (7, [.ref nw, .ref pa, .int (iz (kp)), .ref zl, .ref hd, .ref pd, .int (iz (pn)), .int (iz (at0)), .ref os, .int (iz (od)), .int (iz ((hr_dn Z k ((j3 : Nat) : Int) (-(Z 0) + ((q : Nat) : Int))))), .int (iz ((lk_pump (-(Z 0) + ((q : Nat) : Int))))), .int (iz ((lk_loss Z (lk_pump (-(Z 0) + ((q : Nat) : Int)))))), .int (iz (hr_sp Z k ((j3 : Nat) : Int) (-(Z 0) + ((q : Nat) : Int)))), .int (iz (hr_lv Z k ((j3 : Nat) : Int) (-(Z 0) + ((q : Nat) : Int)))), .int (iz (lk_want Z (-(Z 0) + ((q : Nat) : Int)))), .ref mt, .ref cn])), (nw, .inl (T 0, 115, .inl (zA (mz Z)))), (cn, .inl (T 2, 402, .inl (zA (zup W4 (201 + (hr_lv Z k (j3 : Int) (-(Z 0) + ((q : Nat) : Int))).toNat) 1))))] H := by rw [← hZ]; exact hP
              have hD : va_D A [(mm, .inr (7, [.ref nw, .ref pa, .int (iz (kp)), .ref zl, .ref hd, .ref pd, .int (iz (pn)), .int (iz (at0)), .ref os, .int (iz (od)), .int (iz ((hr_dn Z k ((j3 : Nat) : Int) (-(Z 0) + ((q : Nat) : Int))))), .int (iz ((lk_pump (-(Z 0) + ((q : Nat) : Int))))), .int (iz ((lk_loss Z (lk_pump (-(Z 0) + ((q : Nat) : Int)))))), .int (iz (hr_sp Z k ((j3 : Nat) : Int) (-(Z 0) + ((q : Nat) : Int)))), .int (iz (hr_lv Z k ((j3 : Nat) : Int) (-(Z 0) + ((q : Nat) : Int)))), .int (iz (lk_want Z (-(Z 0) + ((q : Nat) : Int)))), .ref mt, .ref cn])), (nw, .inl (T 0, 115, .inl (zA (mz Z)))), (cn, .inl (T 2, 402, .inl (zA (zup W4 (201 + (hr_lv Z k (j3 : Int) (-(Z 0) + ((q : Nat) : Int))).toNat) 1))))] := by rw [← hZ]; exact hD
              have hZ : (hr_sp Z k ((j3 : Nat) : Int) (-(Z 0) + ((q : Nat) : Int)) : Int) = (hr_sp Z k ((j3 : Nat) : Int) (-(Z 0) + ((q : Nat) : Int))) := (by first | rfl | omega)
              have hP : va_P D vwCl [(mm, .inr (7, [.ref nw, .ref pa, .int (iz (kp)), .ref zl, .ref hd, .ref pd, .int (iz (pn)), .int (iz (at0)), .ref os, .int (iz (od)), .int (iz ((hr_dn Z k ((j3 : Nat) : Int) (-(Z 0) + ((q : Nat) : Int))))), .int (iz ((lk_pump (-(Z 0) + ((q : Nat) : Int))))), .int (iz ((lk_loss Z (lk_pump (-(Z 0) + ((q : Nat) : Int)))))), .int (iz ((hr_sp Z k ((j3 : Nat) : Int) (-(Z 0) + ((q : Nat) : Int))))), .int (iz (hr_lv Z k ((j3 : Nat) : Int) (-(Z 0) + ((q : Nat) : Int)))), .int (iz (lk_want Z (-(Z 0) + ((q : Nat) : Int)))), .ref mt, .ref cn])), (nw, .inl (T 0, 115, .inl (zA (mz Z)))), (cn, .inl (T 2, 402, .inl (zA (zup W4 (201 + (hr_lv Z k (j3 : Int) (-(Z 0) + ((q : Nat) : Int))).toNat) 1))))] H := by rw [← hZ]; exact hP
              have hD : va_D A [(mm, .inr (7, [.ref nw, .ref pa, .int (iz (kp)), .ref zl, .ref hd, .ref pd, .int (iz (pn)), .int (iz (at0)), .ref os, .int (iz (od)), .int (iz ((hr_dn Z k ((j3 : Nat) : Int) (-(Z 0) + ((q : Nat) : Int))))), .int (iz ((lk_pump (-(Z 0) + ((q : Nat) : Int))))), .int (iz ((lk_loss Z (lk_pump (-(Z 0) + ((q : Nat) : Int)))))), .int (iz ((hr_sp Z k ((j3 : Nat) : Int) (-(Z 0) + ((q : Nat) : Int))))), .int (iz (hr_lv Z k ((j3 : Nat) : Int) (-(Z 0) + ((q : Nat) : Int)))), .int (iz (lk_want Z (-(Z 0) + ((q : Nat) : Int)))), .ref mt, .ref cn])), (nw, .inl (T 0, 115, .inl (zA (mz Z)))), (cn, .inl (T 2, 402, .inl (zA (zup W4 (201 + (hr_lv Z k (j3 : Int) (-(Z 0) + ((q : Nat) : Int))).toNat) 1))))] := by rw [← hZ]; exact hD
              have hZ : (hr_lv Z k ((j3 : Nat) : Int) (-(Z 0) + ((q : Nat) : Int)) : Int) = (hr_lv Z k ((j3 : Nat) : Int) (-(Z 0) + ((q : Nat) : Int))) := (by first | rfl | omega)
              have hP : va_P D vwCl [(mm, .inr (7, [.ref nw, .ref pa, .int (iz (kp)), .ref zl, .ref hd, .ref pd, .int (iz (pn)), .int (iz (at0)), .ref os, .int (iz (od)), .int (iz ((hr_dn Z k ((j3 : Nat) : Int) (-(Z 0) + ((q : Nat) : Int))))), .int (iz ((lk_pump (-(Z 0) + ((q : Nat) : Int))))), .int (iz ((lk_loss Z (lk_pump (-(Z 0) + ((q : Nat) : Int)))))), .int (iz ((hr_sp Z k ((j3 : Nat) : Int) (-(Z 0) + ((q : Nat) : Int))))), .int (iz ((hr_lv Z k ((j3 : Nat) : Int) (-(Z 0) + ((q : Nat) : Int))))), .int (iz (lk_want Z (-(Z 0) + ((q : Nat) : Int)))), .ref mt, .ref cn])), (nw, .inl (T 0, 115, .inl (zA (mz Z)))), (cn, .inl (T 2, 402, .inl (zA (zup W4 (201 + (hr_lv Z k (j3 : Int) (-(Z 0) + ((q : Nat) : Int))).toNat) 1))))] H := by rw [← hZ]; exact hP
              have hD : va_D A [(mm, .inr (7, [.ref nw, .ref pa, .int (iz (kp)), .ref zl, .ref hd, .ref pd, .int (iz (pn)), .int (iz (at0)), .ref os, .int (iz (od)), .int (iz ((hr_dn Z k ((j3 : Nat) : Int) (-(Z 0) + ((q : Nat) : Int))))), .int (iz ((lk_pump (-(Z 0) + ((q : Nat) : Int))))), .int (iz ((lk_loss Z (lk_pump (-(Z 0) + ((q : Nat) : Int)))))), .int (iz ((hr_sp Z k ((j3 : Nat) : Int) (-(Z 0) + ((q : Nat) : Int))))), .int (iz ((hr_lv Z k ((j3 : Nat) : Int) (-(Z 0) + ((q : Nat) : Int))))), .int (iz (lk_want Z (-(Z 0) + ((q : Nat) : Int)))), .ref mt, .ref cn])), (nw, .inl (T 0, 115, .inl (zA (mz Z)))), (cn, .inl (T 2, 402, .inl (zA (zup W4 (201 + (hr_lv Z k (j3 : Int) (-(Z 0) + ((q : Nat) : Int))).toNat) 1))))] := by rw [← hZ]; exact hD
              have hZ : (lk_want Z (-(Z 0) + ((q : Nat) : Int)) : Int) = (lk_want Z (-(Z 0) + ((q : Nat) : Int))) := (by first | rfl | omega)
              have hP : va_P D vwCl [(mm, .inr (7, [.ref nw, .ref pa, .int (iz (kp)), .ref zl, .ref hd, .ref pd, .int (iz (pn)), .int (iz (at0)), .ref os, .int (iz (od)), .int (iz ((hr_dn Z k ((j3 : Nat) : Int) (-(Z 0) + ((q : Nat) : Int))))), .int (iz ((lk_pump (-(Z 0) + ((q : Nat) : Int))))), .int (iz ((lk_loss Z (lk_pump (-(Z 0) + ((q : Nat) : Int)))))), .int (iz ((hr_sp Z k ((j3 : Nat) : Int) (-(Z 0) + ((q : Nat) : Int))))), .int (iz ((hr_lv Z k ((j3 : Nat) : Int) (-(Z 0) + ((q : Nat) : Int))))), .int (iz ((lk_want Z (-(Z 0) + ((q : Nat) : Int))))), .ref mt, .ref cn])), (nw, .inl (T 0, 115, .inl (zA (mz Z)))), (cn, .inl (T 2, 402, .inl (zA (zup W4 (201 + (hr_lv Z k (j3 : Int) (-(Z 0) + ((q : Nat) : Int))).toNat) 1))))] H := by rw [← hZ]; exact hP
              have hD : va_D A [(mm, .inr (7, [.ref nw, .ref pa, .int (iz (kp)), .ref zl, .ref hd, .ref pd, .int (iz (pn)), .int (iz (at0)), .ref os, .int (iz (od)), .int (iz ((hr_dn Z k ((j3 : Nat) : Int) (-(Z 0) + ((q : Nat) : Int))))), .int (iz ((lk_pump (-(Z 0) + ((q : Nat) : Int))))), .int (iz ((lk_loss Z (lk_pump (-(Z 0) + ((q : Nat) : Int)))))), .int (iz ((hr_sp Z k ((j3 : Nat) : Int) (-(Z 0) + ((q : Nat) : Int))))), .int (iz ((hr_lv Z k ((j3 : Nat) : Int) (-(Z 0) + ((q : Nat) : Int))))), .int (iz ((lk_want Z (-(Z 0) + ((q : Nat) : Int))))), .ref mt, .ref cn])), (nw, .inl (T 0, 115, .inl (zA (mz Z)))), (cn, .inl (T 2, 402, .inl (zA (zup W4 (201 + (hr_lv Z k (j3 : Int) (-(Z 0) + ((q : Nat) : Int))).toNat) 1))))] := by rw [← hZ]; exact hD
              exact ih88 (q + 1) (hr_dn Z k ((j3 : Nat) : Int) (-(Z 0) + ((q : Nat) : Int))) (lk_pump (-(Z 0) + ((q : Nat) : Int))) (lk_loss Z (lk_pump (-(Z 0) + ((q : Nat) : Int)))) (hr_sp Z k ((j3 : Nat) : Int) (-(Z 0) + ((q : Nat) : Int))) (lk_want Z (-(Z 0) + ((q : Nat) : Int))) (hr_lv Z k ((j3 : Nat) : Int) (-(Z 0) + ((q : Nat) : Int))) (zup W4 (201 + (hr_lv Z k (j3 : Int) (-(Z 0) + ((q : Nat) : Int))).toNat) 1) _ _ _ ⟨(by omega), (fun i hi => by unfold zup; rw [if_neg (by omega)]; exact hsm4 i hi), (hC4.set (by omega)), hup, hP, hD, hS, lv_sub hl [1, 2, 3, 0] rfl⟩ (by omega)
      · refine lv_aload_n hx hb dX7_highest_54 rfl (lv_at hl 0 rfl) ?_
        refine va_get (D := D) (ci := 7) (C := RX7) (T := TX7) (N := 18) hx hb hts w1 hown hK.1 hP 0 rfl rfl 17 (by decide) w0 (fun _ h9 => h9) rfl dX7_highest_55 ?_
        refine lv_sipush (v := iz (201)) hx hb dX7_highest_58 (by decide) ?_
        refine lv_iload_n hx hb dX7_highest_61 rfl (lv_at hl 2 rfl) ?_
        refine kz_add hx hb dX7_highest_62 ?_
        refine lv_iconst (v := iz (0)) hx hb dX7_highest_63 (by decide) ?_
        refine kz_zast hx hb hK hP hD hS (2) rfl (201 + j) (by omega) (by omega) (by omega) (by omega) dX7_highest_64 (fun H locs hP hD hS => ?_)
        have hP : va_P D vwCl [(mm, .inr (7, [.ref nw, .ref pa, .int (iz (kp)), .ref zl, .ref hd, .ref pd, .int (iz (pn)), .int (iz (at0)), .ref os, .int (iz (od)), .int (iz (x1)), .int (iz (x2)), .int (iz (x3)), .int (iz (x4)), .int (iz (x6)), .int (iz (x5)), .ref mt, .ref cn])), (nw, .inl (T 0, 115, .inl (zA (mz Z)))), (cn, .inl (T 2, 402, .inl (zA (zup W2 (201 + j) 0))))] H := hP
        have hD : va_D A [(mm, .inr (7, [.ref nw, .ref pa, .int (iz (kp)), .ref zl, .ref hd, .ref pd, .int (iz (pn)), .int (iz (at0)), .ref os, .int (iz (od)), .int (iz (x1)), .int (iz (x2)), .int (iz (x3)), .int (iz (x4)), .int (iz (x6)), .int (iz (x5)), .ref mt, .ref cn])), (nw, .inl (T 0, 115, .inl (zA (mz Z)))), (cn, .inl (T 2, 402, .inl (zA (zup W2 (201 + j) 0))))] := hD
        refine kz_iinc (b := ((j + 1 : Nat) : Int)) (lv' := [(2, .int (iz (((j + 1 : Nat) : Int)))), (0, .ref mm), (1, .int (iz (((k : Nat) : Int))))]) hx hb dX7_highest_65 hl (k := 2) rfl (by omega) (by decide) rfl (fun ls hl => ?_)
        refine lv_goto (tgt := 47) hx hb dX7_highest_68 (by decide) ?_
        exact ih47 (j + 1) (zup W2 (201 + j) 0) _ _ _ ⟨(by omega), (fun i hi => by unfold zup; split; rfl; exact hz0 i (by omega)), (fun i hi => by unfold zup; rw [if_neg (by omega)]; exact hsm i hi), hP, hD, hS, lv_sub hl [1, 2, 0] rfl⟩ (by omega)
  · refine lv_aload_n hx hb dX7_highest_9 rfl (lv_at hl 0 rfl) ?_
    refine va_get (D := D) (ci := 7) (C := RX7) (T := TX7) (N := 18) hx hb hts w1 hown hK.1 hP 0 rfl rfl 17 (by decide) w0 (fun _ h9 => h9) rfl dX7_highest_10 ?_
    refine lv_iload_n hx hb dX7_highest_13 rfl (lv_at hl 1 rfl) ?_
    refine lv_iload_n hx hb dX7_highest_14 rfl (lv_at hl 1 rfl) ?_
    refine lv_aload_n hx hb dX7_highest_15 rfl (lv_at hl 0 rfl) ?_
    refine va_get (D := D) (ci := 7) (C := RX7) (T := TX7) (N := 18) hx hb hts w1 hown hK.1 hP 0 rfl rfl 0 (by decide) w2 (fun _ h9 => h9) rfl dX7_highest_16 ?_
    refine lv_bipush (v := iz (7)) hx hb dX7_highest_19 (by decide) ?_
    refine kz_iald hx hb hK hP (1) rfl (7) (by omega) (by omega) (by omega) dX7_highest_21 ?_
    refine kz_top (y := Z 7) (mz_lo (by omega)) ?_
    refine kz_icmp_ne (tgt := 29) hx hb dX7_highest_22 (by decide) (by omega) (by omega) (fun c22 => ?_) (fun c22 => ?_)
    · refine lv_iconst (v := iz (0)) hx hb dX7_highest_29 (by decide) ?_
      refine kz_zast hx hb hK hP hD hS (2) rfl (n) (by omega) (by omega) (by omega) (by omega) dX7_highest_30 (fun H locs hP hD hS => ?_)
      have hP : va_P D vwCl [(mm, .inr (7, [.ref nw, .ref pa, .int (iz (kp)), .ref zl, .ref hd, .ref pd, .int (iz (pn)), .int (iz (at0)), .ref os, .int (iz (od)), .int (iz (dn)), .int (iz (pu)), .int (iz (lo2)), .int (iz (sp2)), .int (iz (lv2)), .int (iz (wa)), .ref mt, .ref cn])), (nw, .inl (T 0, 115, .inl (zA (mz Z)))), (cn, .inl (T 2, 402, .inl (zA (zup (zmix n (fun i : Nat => if (i : Int) = Z 7 then 1 else 0) C) n 0))))] H := hP
      have hD : va_D A [(mm, .inr (7, [.ref nw, .ref pa, .int (iz (kp)), .ref zl, .ref hd, .ref pd, .int (iz (pn)), .int (iz (at0)), .ref os, .int (iz (od)), .int (iz (dn)), .int (iz (pu)), .int (iz (lo2)), .int (iz (sp2)), .int (iz (lv2)), .int (iz (wa)), .ref mt, .ref cn])), (nw, .inl (T 0, 115, .inl (zA (mz Z)))), (cn, .inl (T 2, 402, .inl (zA (zup (zmix n (fun i : Nat => if (i : Int) = Z 7 then 1 else 0) C) n 0))))] := hD
      refine kz_iinc (b := ((n + 1 : Nat) : Int)) (lv' := [(1, .int (iz (((n + 1 : Nat) : Int)))), (0, .ref mm)]) hx hb dX7_highest_31 hl (k := 1) rfl (by omega) (by decide) rfl (fun ls hl => ?_)
      refine lv_goto (tgt := 2) hx hb dX7_highest_34 (by decide) ?_
      have hZ : (zup (zmix n (fun i : Nat => if (i : Int) = Z 7 then 1 else 0) C) n 0 : Nat → Int) = zmix (n + 1) (fun i : Nat => if (i : Int) = Z 7 then 1 else 0) C := (zmix_s (by show _ = if ((n : Nat) : Int) = Z 7 then 1 else 0; first | (rw [if_pos (by omega)]; done) | (rw [if_neg (by omega)]; done)))
      have hP : va_P D vwCl [(mm, .inr (7, [.ref nw, .ref pa, .int (iz (kp)), .ref zl, .ref hd, .ref pd, .int (iz (pn)), .int (iz (at0)), .ref os, .int (iz (od)), .int (iz (dn)), .int (iz (pu)), .int (iz (lo2)), .int (iz (sp2)), .int (iz (lv2)), .int (iz (wa)), .ref mt, .ref cn])), (nw, .inl (T 0, 115, .inl (zA (mz Z)))), (cn, .inl (T 2, 402, .inl (zA (zmix (n + 1) (fun i : Nat => if (i : Int) = Z 7 then 1 else 0) C))))] H := by rw [← hZ]; exact hP
      have hD : va_D A [(mm, .inr (7, [.ref nw, .ref pa, .int (iz (kp)), .ref zl, .ref hd, .ref pd, .int (iz (pn)), .int (iz (at0)), .ref os, .int (iz (od)), .int (iz (dn)), .int (iz (pu)), .int (iz (lo2)), .int (iz (sp2)), .int (iz (lv2)), .int (iz (wa)), .ref mt, .ref cn])), (nw, .inl (T 0, 115, .inl (zA (mz Z)))), (cn, .inl (T 2, 402, .inl (zA (zmix (n + 1) (fun i : Nat => if (i : Int) = Z 7 then 1 else 0) C))))] := by rw [← hZ]; exact hD
      exact ih2 (n + 1) _ _ _ ⟨(by omega), hP, hD, hS, lv_sub hl [1, 0] rfl⟩ (by omega)
    · refine lv_iconst (v := iz (1)) hx hb dX7_highest_25 (by decide) ?_
      refine lv_goto (tgt := 30) hx hb dX7_highest_26 (by decide) ?_
      refine kz_zast hx hb hK hP hD hS (2) rfl (n) (by omega) (by omega) (by omega) (by omega) dX7_highest_30 (fun H locs hP hD hS => ?_)
      have hP : va_P D vwCl [(mm, .inr (7, [.ref nw, .ref pa, .int (iz (kp)), .ref zl, .ref hd, .ref pd, .int (iz (pn)), .int (iz (at0)), .ref os, .int (iz (od)), .int (iz (dn)), .int (iz (pu)), .int (iz (lo2)), .int (iz (sp2)), .int (iz (lv2)), .int (iz (wa)), .ref mt, .ref cn])), (nw, .inl (T 0, 115, .inl (zA (mz Z)))), (cn, .inl (T 2, 402, .inl (zA (zup (zmix n (fun i : Nat => if (i : Int) = Z 7 then 1 else 0) C) n 1))))] H := hP
      have hD : va_D A [(mm, .inr (7, [.ref nw, .ref pa, .int (iz (kp)), .ref zl, .ref hd, .ref pd, .int (iz (pn)), .int (iz (at0)), .ref os, .int (iz (od)), .int (iz (dn)), .int (iz (pu)), .int (iz (lo2)), .int (iz (sp2)), .int (iz (lv2)), .int (iz (wa)), .ref mt, .ref cn])), (nw, .inl (T 0, 115, .inl (zA (mz Z)))), (cn, .inl (T 2, 402, .inl (zA (zup (zmix n (fun i : Nat => if (i : Int) = Z 7 then 1 else 0) C) n 1))))] := hD
      refine kz_iinc (b := ((n + 1 : Nat) : Int)) (lv' := [(1, .int (iz (((n + 1 : Nat) : Int)))), (0, .ref mm)]) hx hb dX7_highest_31 hl (k := 1) rfl (by omega) (by decide) rfl (fun ls hl => ?_)
      refine lv_goto (tgt := 2) hx hb dX7_highest_34 (by decide) ?_
      have hZ : (zup (zmix n (fun i : Nat => if (i : Int) = Z 7 then 1 else 0) C) n 1 : Nat → Int) = zmix (n + 1) (fun i : Nat => if (i : Int) = Z 7 then 1 else 0) C := (zmix_s (by show _ = if ((n : Nat) : Int) = Z 7 then 1 else 0; first | (rw [if_pos (by omega)]; done) | (rw [if_neg (by omega)]; done)))
      have hP : va_P D vwCl [(mm, .inr (7, [.ref nw, .ref pa, .int (iz (kp)), .ref zl, .ref hd, .ref pd, .int (iz (pn)), .int (iz (at0)), .ref os, .int (iz (od)), .int (iz (dn)), .int (iz (pu)), .int (iz (lo2)), .int (iz (sp2)), .int (iz (lv2)), .int (iz (wa)), .ref mt, .ref cn])), (nw, .inl (T 0, 115, .inl (zA (mz Z)))), (cn, .inl (T 2, 402, .inl (zA (zmix (n + 1) (fun i : Nat => if (i : Int) = Z 7 then 1 else 0) C))))] H := by rw [← hZ]; exact hP
      have hD : va_D A [(mm, .inr (7, [.ref nw, .ref pa, .int (iz (kp)), .ref zl, .ref hd, .ref pd, .int (iz (pn)), .int (iz (at0)), .ref os, .int (iz (od)), .int (iz (dn)), .int (iz (pu)), .int (iz (lo2)), .int (iz (sp2)), .int (iz (lv2)), .int (iz (wa)), .ref mt, .ref cn])), (nw, .inl (T 0, 115, .inl (zA (mz Z)))), (cn, .inl (T 2, 402, .inl (zA (zmix (n + 1) (fun i : Nat => if (i : Int) = Z 7 then 1 else 0) C))))] := by rw [← hZ]; exact hD
      exact ih2 (n + 1) _ _ _ ⟨(by omega), hP, hD, hS, lv_sub hl [1, 0] rfl⟩ (by omega)
