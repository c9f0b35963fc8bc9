/-! what the start gives: classes, arrays, the words of the nest, the two tables -/
theorem sl_arr {args : Array Value} {s : State} {ty : FieldType} (h : (Cond.arrayClass ty).before args s = true) : ∃ cA : ClassId, ArrOfT s cA ty ∧ s.vm.findClass ("[" ++ ty.toString) = some cA := by
  obtain ⟨cA, kA, comp, h1, h2, h3⟩ := Cond.arrayClass_spec h
  exact ⟨cA, fun n z => ⟨fun k h => (by cases h), kA, h2, comp, h3⟩, h1⟩
theorem sl_over {args : Array Value} {s : State} (h : (Cond.arrayOver (.array .int)).before args s = true) : ∃ cA : ClassId, ArrOfT s cA (.array .int) ∧ s.vm.findClass ("[" ++ (FieldType.array .int).toString) = some cA := by
  obtain ⟨comp, cA, kA, -, -, h2, h3, h1⟩ := arrayOverA_spec h
  exact ⟨cA, fun n z => ⟨fun k h => (by cases h), kA, h2, comp, h3⟩, h1⟩
theorem sl_T {args : Array Value} {s : State} (hts : ∀ w ∈ lw_tbl, w.before args s = true) : ∃ T : Nat → ClassId, ∀ (k : Nat) (q : ClassId × FieldType), (kT T)[k]? = some q → ArrOfT s q.1 q.2 ∧ va_RA s q.1 q.2 := by
  obtain ⟨t0, a0, n0⟩ := sl_arr (hts (.arrayClass .int) (by decide +kernel))
  obtain ⟨t1, a1, n1⟩ := sl_over (hts (.arrayOver (.array .int)) (by decide +kernel))
  obtain ⟨t2, a2, n2⟩ := sl_arr (hts (.arrayClass .boolean) (by decide +kernel))
  obtain ⟨t3, a3, n3⟩ := sl_arr (hts (.arrayClass .char) (by decide +kernel))
  refine ⟨fun k => match k with | 0 => t0 | 1 => t1 | 2 => t2 | _ => t3, ?_⟩
  intro k q hq
  match k, hq with
  | 0, hq => cases hq; exact ⟨a0, n0⟩
  | 1, hq => cases hq; exact ⟨a1, n1⟩
  | 2, hq => cases hq; exact ⟨a2, n2⟩
  | 3, hq => cases hq; exact ⟨a3, n3⟩
  | k + 4, hq => simp at hq
theorem sl_D {args : Array Value} {s : State} (hts : ∀ w ∈ lw_tbl, w.before args s = true) : ∃ D : va_G, ∀ (k : Nat) (q : vw_C), vwCl[k]? = some q → u_Kn s q.1 q.2.1 q.2.2 (D.1 k) (D.2 k) := by
  obtain ⟨c0, i0, h0⟩ := u_known (C := RX0) (T := TX0) (N := 9) (n := 9) hts inX0 (hts (.instantiable RX0 9) (by decide +kernel))
  obtain ⟨c1, i1, h1⟩ := u_known (C := RX1) (T := TX1) (N := 3) (n := 3) hts inX1 (hts (.instantiable RX1 3) (by decide +kernel))
  obtain ⟨c2, i2, h2⟩ := u_known (C := RX2) (T := TX2) (N := 2) (n := 2) hts inX2 (hts (.instantiable RX2 2) (by decide +kernel))
  obtain ⟨c3, i3, h3⟩ := u_known (C := RX3) (T := TX3) (N := 2) (n := 2) hts inX3 (hts (.instantiable RX3 2) (by decide +kernel))
  obtain ⟨c4, i4, h4⟩ := u_known (C := RX4) (T := TX4) (N := 10) (n := 10) hts inX4 (hts (.instantiable RX4 10) (by decide +kernel))
  obtain ⟨c5, i5, h5⟩ := u_known (C := RX5) (T := TX5) (N := 9) (n := 9) hts inX5 (hts (.instantiable RX5 9) (by decide +kernel))
  obtain ⟨c6, i6, h6⟩ := u_known (C := RX6) (T := TX6) (N := 8) (n := 8) hts inX6 (hts (.instantiable RX6 8) (by decide +kernel))
  refine ⟨(fun k => match k with | 0 => c0 | 1 => c1 | 2 => c2 | 3 => c3 | 4 => c4 | 5 => c5 | _ => c6, fun k => match k with | 0 => i0 | 1 => i1 | 2 => i2 | 3 => i3 | 4 => i4 | 5 => i5 | _ => i6), ?_⟩
  intro k q hq
  match k, hq with
  | 0, hq => cases hq; exact h0
  | 1, hq => cases hq; exact h1
  | 2, hq => cases hq; exact h2
  | 3, hq => cases hq; exact h3
  | 4, hq => cases hq; exact h4
  | 5, hq => cases hq; exact h5
  | 6, hq => cases hq; exact h6
  | k + 7, hq => simp [vwCl] at hq
theorem sl_non : ∀ w ∈ kNest, w.onTables = true := by decide +kernel
set_option maxRecDepth 20000 in
theorem sl_nin : ∀ w ∈ kNest, w ∈ lw_tbl := by decide +kernel
theorem sl_K {args : Array Value} {s : State} (hts : ∀ w ∈ lw_tbl, w.before args s = true) : ∃ (D : va_G) (T : Nat → ClassId), kK D T s := by
  obtain ⟨D, hD⟩ := sl_D hts
  obtain ⟨T, hT⟩ := sl_T hts
  exact ⟨D, T, ⟨hD, hT⟩, fun w hw => va_tabs (sl_non w hw) rfl (hts w (sl_nin w hw))⟩
theorem kq3 {a r1 r2 r3 : va_W} : ((((a ++ r1) ++ r2) ++ r3) ++ []).Perm (((a ++ r1) ++ r2) ++ r3) := List.Perm.of_eq (List.append_nil _)
/-! the cells of a world in another order, its blocks as they are -/
theorem kTk (C : va_W) : ∀ n : Nat, (List.range n).filterMap (fun i => C[i]?) = C.take n
  | 0 => by simp
  | n + 1 => by
    rw [List.range_succ, List.filterMap_append, kTk C n, List.take_succ]
    congr 1
theorem kPl {C C' : va_W} (n : Nat) (is : List Nat) (h : is.isPerm (List.range n) = true) (hn : C.length = n) (hs : is.map (fun i => C[i]?) = C'.map some) : C.Perm C' := by
  have h1 := (List.isPerm_iff.mp h).filterMap (fun i => C[i]?)
  rw [← hn, kTk C C.length, List.take_length] at h1
  have h2 : is.filterMap (fun i => C[i]?) = C' := by
    have e : is.filterMap (fun i => C[i]?) = (is.map (fun i => C[i]?)).filterMap id := by rw [List.filterMap_map]; rfl
    rw [e, hs, List.filterMap_map]
    exact List.filterMap_some
  rw [h2] at h1
  exact h1.symm
theorem kPl3 {C C' b1 b2 b3 : va_W} (h : C.Perm C') : (((C ++ b1) ++ b2) ++ b3).Perm (((C' ++ b1) ++ b2) ++ b3) := ((h.append_right b1).append_right b2).append_right b3
theorem sl_fv {b : Nat} {s : State} {A : Nat → Prop} (hts : ∀ w ∈ lw_tbl, w.before #[Value.ref b] s = true) (hgv : (Jvm.Cond.and given_1 narrow_1).before #[Value.ref b] s = true) (hA : ∀ a : Nat, a < s.heap.size → ¬ A a) : ∃ mv : Nat, kMV "FIRST_VALUES" fvG mv A s s.heap := by
  have hs := flat_of_before _ hgv
  have harr : (Cond.arrayOf (.static RX2 "FIRST_VALUES" "[I") .int).before #[Value.ref b] s = true := hs _ (by decide +kernel)
  have hlen : (Term.length (.static RX2 "FIRST_VALUES" "[I")).eval #[Value.ref b] s none [] s = some (.int (Int32.ofNat 10)) := va_eqt (hs (.eq (.length (.static RX2 "FIRST_VALUES" "[I")) (.int 10)) (by decide +kernel))
  have hel : ∀ j : Nat, j < 10 → (Term.elem (.static RX2 "FIRST_VALUES" "[I") (.int (Int32.ofNat j))).eval #[Value.ref b] s none [] s = some (.int (iz (fvG j))) := by
    intro j hj
    match j, hj with
    | 0, _ =>
      rw [show iz (fvG 0) = (20 : Int32) from by decide +kernel]
      exact va_eqt (hs (.eq (.elem (.static RX2 "FIRST_VALUES" "[I") (.int 0)) (.int 20)) (by decide +kernel))
    | 1, _ =>
      rw [show iz (fvG 1) = (20 : Int32) from by decide +kernel]
      exact va_eqt (hs (.eq (.elem (.static RX2 "FIRST_VALUES" "[I") (.int 1)) (.int 20)) (by decide +kernel))
    | 2, _ =>
      rw [show iz (fvG 2) = (25 : Int32) from by decide +kernel]
      exact va_eqt (hs (.eq (.elem (.static RX2 "FIRST_VALUES" "[I") (.int 2)) (.int 25)) (by decide +kernel))
    | 3, _ =>
      rw [show iz (fvG 3) = (90 : Int32) from by decide +kernel]
      exact va_eqt (hs (.eq (.elem (.static RX2 "FIRST_VALUES" "[I") (.int 3)) (.int 90)) (by decide +kernel))
    | 4, _ =>
      rw [show iz (fvG 4) = (2 : Int32) from by decide +kernel]
      exact va_eqt (hs (.eq (.elem (.static RX2 "FIRST_VALUES" "[I") (.int 4)) (.int 2)) (by decide +kernel))
    | 5, _ =>
      rw [show iz (fvG 5) = (20 : Int32) from by decide +kernel]
      exact va_eqt (hs (.eq (.elem (.static RX2 "FIRST_VALUES" "[I") (.int 5)) (.int 20)) (by decide +kernel))
    | 6, _ =>
      rw [show iz (fvG 6) = (150 : Int32) from by decide +kernel]
      exact va_eqt (hs (.eq (.elem (.static RX2 "FIRST_VALUES" "[I") (.int 6)) (.int 150)) (by decide +kernel))
    | 7, _ =>
      rw [show iz (fvG 7) = (80 : Int32) from by decide +kernel]
      exact va_eqt (hs (.eq (.elem (.static RX2 "FIRST_VALUES" "[I") (.int 7)) (.int 80)) (by decide +kernel))
    | 8, _ =>
      rw [show iz (fvG 8) = (80 : Int32) from by decide +kernel]
      exact va_eqt (hs (.eq (.elem (.static RX2 "FIRST_VALUES" "[I") (.int 8)) (.int 80)) (by decide +kernel))
    | 9, _ =>
      rw [show iz (fvG 9) = (50 : Int32) from by decide +kernel]
      exact va_eqt (hs (.eq (.elem (.static RX2 "FIRST_VALUES" "[I") (.int 9)) (.int 50)) (by decide +kernel))
    | n + 10, h => exact absurd h (by omega)
  obtain ⟨t, ht, hT⟩ := va_Tof (N := 10) (f := fun j => .int (iz (fvG j))) (A := A) (by decide) harr hlen hel hA
  exact ⟨t, va_Zref (hts (.laysStatic RX2 "FIRST_VALUES" "[I") (by decide +kernel)) (hts (.initialized RX2) (by decide +kernel)) ht hA, hT⟩
theorem sl_mv {b : Nat} {s : State} {A : Nat → Prop} (hts : ∀ w ∈ lw_tbl, w.before #[Value.ref b] s = true) (hgv : (Jvm.Cond.and given_1 narrow_1).before #[Value.ref b] s = true) (hA : ∀ a : Nat, a < s.heap.size → ¬ A a) : ∃ mv : Nat, kMV "MOST_VALUES" mvF mv A s s.heap := by
  have hs := flat_of_before _ hgv
  have harr : (Cond.arrayOf (.static RX2 "MOST_VALUES" "[I") .int).before #[Value.ref b] s = true := hs _ (by decide +kernel)
  have hlen : (Term.length (.static RX2 "MOST_VALUES" "[I")).eval #[Value.ref b] s none [] s = some (.int (Int32.ofNat 10)) := va_eqt (hs (.eq (.length (.static RX2 "MOST_VALUES" "[I")) (.int 10)) (by decide +kernel))
  have hel : ∀ j : Nat, j < 10 → (Term.elem (.static RX2 "MOST_VALUES" "[I") (.int (Int32.ofNat j))).eval #[Value.ref b] s none [] s = some (.int (iz (mvF j))) := by
    intro j hj
    match j, hj with
    | 0, _ =>
      rw [show iz (mvF 0) = (30 : Int32) from by decide +kernel]
      exact va_eqt (hs (.eq (.elem (.static RX2 "MOST_VALUES" "[I") (.int 0)) (.int 30)) (by decide +kernel))
    | 1, _ =>
      rw [show iz (mvF 1) = (30 : Int32) from by decide +kernel]
      exact va_eqt (hs (.eq (.elem (.static RX2 "MOST_VALUES" "[I") (.int 1)) (.int 30)) (by decide +kernel))
    | 2, _ =>
      rw [show iz (mvF 2) = (100 : Int32) from by decide +kernel]
      exact va_eqt (hs (.eq (.elem (.static RX2 "MOST_VALUES" "[I") (.int 2)) (.int 100)) (by decide +kernel))
    | 3, _ =>
      rw [show iz (mvF 3) = (100 : Int32) from by decide +kernel]
      exact va_eqt (hs (.eq (.elem (.static RX2 "MOST_VALUES" "[I") (.int 3)) (.int 100)) (by decide +kernel))
    | 4, _ =>
      rw [show iz (mvF 4) = (30 : Int32) from by decide +kernel]
      exact va_eqt (hs (.eq (.elem (.static RX2 "MOST_VALUES" "[I") (.int 4)) (.int 30)) (by decide +kernel))
    | 5, _ =>
      rw [show iz (mvF 5) = (200 : Int32) from by decide +kernel]
      exact va_eqt (hs (.eq (.elem (.static RX2 "MOST_VALUES" "[I") (.int 5)) (.int 200)) (by decide +kernel))
    | 6, _ =>
      rw [show iz (mvF 6) = (200 : Int32) from by decide +kernel]
      exact va_eqt (hs (.eq (.elem (.static RX2 "MOST_VALUES" "[I") (.int 6)) (.int 200)) (by decide +kernel))
    | 7, _ =>
      rw [show iz (mvF 7) = (200 : Int32) from by decide +kernel]
      exact va_eqt (hs (.eq (.elem (.static RX2 "MOST_VALUES" "[I") (.int 7)) (.int 200)) (by decide +kernel))
    | 8, _ =>
      rw [show iz (mvF 8) = (200 : Int32) from by decide +kernel]
      exact va_eqt (hs (.eq (.elem (.static RX2 "MOST_VALUES" "[I") (.int 8)) (.int 200)) (by decide +kernel))
    | 9, _ =>
      rw [show iz (mvF 9) = (999 : Int32) from by decide +kernel]
      exact va_eqt (hs (.eq (.elem (.static RX2 "MOST_VALUES" "[I") (.int 9)) (.int 999)) (by decide +kernel))
    | n + 10, h => exact absurd h (by omega)
  obtain ⟨t, ht, hT⟩ := va_Tof (N := 10) (f := fun j => .int (iz (mvF j))) (A := A) (by decide) harr hlen hel hA
  exact ⟨t, va_Zref (hts (.laysStatic RX2 "MOST_VALUES" "[I") (by decide +kernel)) (hts (.initialized RX2) (by decide +kernel)) ht hA, hT⟩
theorem wsL_q1 {w : Cond} {i : Nat} (h : wsL_law_r1[i]? = some w) : w ∈ wsL_law := List.mem_append_left _ (List.mem_append_left _ (List.mem_append_left _ (List.mem_append_left _ (List.mem_append_left _ (List.mem_append_left _ (List.mem_append_left _ (List.mem_append_left _ (List.mem_append_left _ (List.mem_of_getElem? h)))))))))
