/-! rows of rows; what a constructor is told -/
theorem va_AOA.moved {ty : FieldType} {u U : State} (hvm : u.vm.Alike U.vm) (h : va_AOA ty u) : va_AOA ty U := by
  have e := Cond.arrayOver_setVmC (args := #[]) (s := u) hvm (.array ty)
  have h1 : (Cond.arrayOver (.array ty)).before #[] (u.setVm U.vm) = true := by rw [e]; exact h
  exact h1
def kPcO (D : va_G) (T : Nat → ClassId) (av : List Value) (Φ : Heap → Prop) : Array Value → State → Prop := fun v U => v = av.toArray ∧ kK D T U ∧ va_AOA .int U ∧ Φ U.heap
theorem kPcO.s {D : va_G} {T : Nat → ClassId} {As : List Value} {Φ : Heap → Prop} {s : State} {H : Heap} (hK : kK D T s) (hO : va_AOA .int s) (h : Φ H) : PreS s H (kPcO D T As Φ) As := ⟨fun _ U g mk h => ⟨h.1, h.2.1.calling, va_AOA.moved (u := U) (U := U.calling g mk _) (Vm.Alike.refl U.vm) h.2.2.1, h.2.2.2⟩, fun U hU hW => ⟨rfl, hK.warm hW, hO.moved hW.alike, by rw [hU]; exact h⟩⟩
theorem kPcM.s {D : va_G} {T : Nat → ClassId} {As : List Value} {nm : String} {F : Nat → Int} {mv : Nat} {A : Nat → Prop} {Φ : Heap → Prop} {s : State} {H : Heap} (hK : kK D T s) (hM : kMV nm F mv A s H) (h : Φ H) : PreS s H (kPcM D T As nm F mv A Φ) As := ⟨kPcM.blind, fun U hU hW => ⟨rfl, hK.warm hW, kMV.moved hW.alike (by rw [hU]; exact hM), by rw [hU]; exact h⟩⟩
def kPcMO (D : va_G) (T : Nat → ClassId) (av : List Value) (nm : String) (F : Nat → Int) (mv : Nat) (A : Nat → Prop) (Φ : Heap → Prop) : Array Value → State → Prop := fun v U => v = av.toArray ∧ kK D T U ∧ kMV nm F mv A U U.heap ∧ va_AOA .int U ∧ Φ U.heap
theorem kPcMO.s {D : va_G} {T : Nat → ClassId} {As : List Value} {nm : String} {F : Nat → Int} {mv : Nat} {A : Nat → Prop} {Φ : Heap → Prop} {s : State} {H : Heap} (hK : kK D T s) (hM : kMV nm F mv A s H) (hO : va_AOA .int s) (h : Φ H) : PreS s H (kPcMO D T As nm F mv A Φ) As := ⟨fun _ U g mk h => ⟨h.1, h.2.1.calling, kMV.moved (u := U) (U := U.calling g mk _) (Vm.Alike.refl U.vm) h.2.2.1, va_AOA.moved (u := U) (U := U.calling g mk _) (Vm.Alike.refl U.vm) h.2.2.2.1, h.2.2.2.2⟩, fun U hU hW => ⟨rfl, hK.warm hW, kMV.moved hW.alike (by rw [hU]; exact hM), hO.moved hW.alike, by rw [hU]; exact h⟩⟩
theorem kRows_pl {T : Nat → ClassId} {r : Nat → Nat} {N K : Nat} {f : Nat → va_E} : va_pl ([] ++ (List.range N).map r) (vr_up f ((List.range N).map r) (.inl (T 0, (K, .inl (zA (fun _ => 0)))))) = kRows T r N K (fun _ _ => 0) := by
  unfold va_pl kRows
  rw [List.nil_append, List.map_map]
  apply List.map_congr_left
  intro i hi
  show (r i, vr_up f _ _ (r i)) = _
  rw [vr_up_in (List.mem_map_of_mem (f := r) hi)]
section MW
variable {p : Program} {l : Launch} {e : Env} {R : Room} {s : State} {m : MethodId} {args : Array Value} {below : List Frame} {meth : Method} {c : Code} {H : Heap} {locs : List Loc} {cells slots : Nat} {Q : State → Prop}
variable {cc : ByteArray} {pc : Nat} {ls : Array Slot} {rest st0 : List Value} {D : va_G} {A : Nat → Prop} {H0 : Heap} {T : Nat → ClassId}
theorem kz_mna (hx : p.tables.exec = Jvm.exec) (hb : c.code = cc) (hK : kK D T s) {ws : va_W} (hP : va_P D vwCl ws H) (hD : va_D A ws) (hS : va_S A H0 H locs) (hA : ∀ q, H0.size ≤ q → A q) {own : String} {index : Nat} (hown : s.vm.findClass own = some m.cls) (hclink : (Cond.classLink own index "[[I").before args s = true) (hO : va_AOA .int s) (harr : (Cond.arrayClass .int).before args s = true) {N K : Nat} {n k : Int} (hn : n = (N : Int)) (hk : k = (K : Int)) (hN : N ≤ 1000) (hKK : K ≤ 1000) (hcells : cells + (1 + N) ≤ R.cells) (hslots : slots + (N + N * K) ≤ R.slots) (hdg : decode cc pc = .ok (.multianewarray index 2, 4))
    (kk : ∀ (q : Nat) (r : Nat → Nat) (H1 : Heap), va_P D vwCl ((ws ++ [(q, .inl (T 1, N, .inr (.inr (.inr (.inr (fun i => some (r i)))))))]) ++ kRows T r N K (fun _ _ => 0)) H1 → va_D A ((ws ++ [(q, .inl (T 1, N, .inr (.inr (.inr (.inr (fun i => some (r i)))))))]) ++ kRows T r N K (fun _ _ => 0)) → va_S A H0 H1 locs → W p l e R s m args below meth c H1 locs (cells + 1 + N) (slots + N + N * K) Q (F0 m (pc + 4) ls (.ref q :: rest))) : W p l e R s m args below meth c H locs cells slots Q (F0 m pc ls (.int (iz k) :: .int (iz n) :: rest)) := by
  subst hn
  subst hk
  rw [iz_nI, iz_nI]
  refine va_mna (X := ws) (L := []) (f := fun _ => .inl (T 0, (0, .inl (zA (fun _ => 0))))) (ty := .int) (cy := T 0) (N' := N) (K' := K) (z := (K, .inl (zA (fun _ => 0)))) hx hb hown hclink hO harr (hK.1.2 0 (T 0, .int) rfl).2 hK.1 (by show va_P D vwCl (ws ++ []) H; rw [List.append_nil]; exact hP) (by show va_D A (ws ++ []); rw [List.append_nil]; exact hD) hS hA (nI_pos (by omega)) (nI_pos (by omega)) (nI_clamp (by omega)) (nI_clamp (by omega)) (by omega) (by show K * 4 ≤ _; omega) (by omega) rfl rfl hcells hslots (fun c => arrV_new c K (.int 0)) hdg (fun q r cA H1 _ _ hK1 hP1 hD1 hS1 => ?_)
  have e : cA = T 1 := by
    have h1 := (hK1.2 (kT T).length (cA, .array .int) (by rw [List.getElem?_append_right (Nat.le_refl _), Nat.sub_self]; rfl)).2
    have h2 := (hK.1.2 1 (T 1, .array .int) rfl).2
    exact Option.some.inj ((show _ = some cA from h1).symm.trans h2)
  subst e
  rw [kRows_pl] at hP1 hD1
  exact kk q r H1 hP1 hD1 hS1
end MW
