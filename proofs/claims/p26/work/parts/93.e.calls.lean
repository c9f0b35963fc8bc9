/-! calls in a world with two blocks, that stay as they are -/
theorem kput_app : ∀ (is : List Nat) (w1 X M : va_W), (∀ i, i ∈ is → i < X.length) → kput (X ++ M) is w1 = kput X is w1 ++ M
  | [], w1, X, M, _ => by cases w1 <;> rfl
  | i :: is, [], X, M, _ => rfl
  | i :: is, q :: w1, X, M, h => by
    show kput ((X ++ M).set i q) is w1 = kput (X.set i q) is w1 ++ M
    rw [List.set_append_left _ _ (h i List.mem_cons_self)]
    exact kput_app is w1 (X.set i q) M (fun j hj => by rw [List.length_set]; exact h j (List.mem_cons_of_mem _ hj))
theorem kc_in {is : List Nat} {C wc : va_W} (hC : is.map (fun i => C[i]?) = wc.map some) : ∀ i, i ∈ is → i < C.length := fun i hi => by
  have h : C[i]? ∈ is.map (fun i => C[i]?) := List.mem_map.mpr ⟨i, hi, rfl⟩
  rw [hC] at h
  obtain ⟨x, -, hx⟩ := List.mem_map.mp h
  exact (List.getElem?_eq_some_iff.mp hx.symm).1
theorem kc_ext {is : List Nat} {C M wc : va_W} (hC : is.map (fun i => C[i]?) = wc.map some) : is.map (fun i => (C ++ M)[i]?) = wc.map some := by
  rw [← hC]
  apply List.map_congr_left
  intro i hi
  exact List.getElem?_append_left (kc_in hC i hi)
section KM
variable {p : Program} {l : Launch} {e : Env} {R : Room} {s : State} {m : MethodId} {args : Array Value} {below : List Frame} {meth : Method} {c : Code} {H : Heap} {locs : List Loc} {cells slots : Nat} {Q : State → Prop}
variable {cc : ByteArray} {pc : Nat} {ls : Array Slot} {rest st0 : List Value} {D : va_G} {A : Nat → Prop} {H0 : Heap} {T : Nat → ClassId}
theorem kc_wiM {a : Array Value} {S : Type} {post : Int32 → S → Prop} {wsA rA : S → va_W} {C M Rw wc : va_W} (hr : va_Run p l e R s m args below meth c H locs cells slots 0 0 (F0 m pc ls st0) rest (va_Qi post (fun u t => va_P D vwCl (wsA u ++ rA u) t.heap) (va_A (wc ++ Rw) H.size) a) (va_A (wc ++ Rw) H.size)) (hP : va_P D vwCl ((C ++ M) ++ Rw) H) (hD : va_D A ((C ++ M) ++ Rw)) (hS : va_S A H0 H locs) (hA : ∀ q, H0.size ≤ q → A q) (is : List Nat) (hC : is.map (fun i => C[i]?) = wc.map some) (hf : ∀ u : S, (wsA u).map Prod.fst = wc.map Prod.fst) (hg : ∀ u : S, (rA u).map Prod.fst = Rw.map Prod.fst)
    (kk : ∀ (r : Int32) (u : S) (H1 : Heap) (locs1 : List Loc), post r u → va_P D vwCl ((kput C is (wsA u) ++ M) ++ rA u) H1 → va_D A ((kput C is (wsA u) ++ M) ++ rA u) → va_S A H0 H1 locs1 → W p l e R s m args below meth c H1 locs1 cells slots Q (F0 m (pc + 3) ls (.int r :: rest))) : W p l e R s m args below meth c H locs cells slots Q (F0 m pc ls st0) := by
  refine kc_wiP hr hP hD hS hA is (kc_ext hC) hf hg (fun r u H1 locs1 hq hP1 hD1 hS1 => ?_)
  rw [kput_app is (wsA u) C M (kc_in hC)] at hP1 hD1
  exact kk r u H1 locs1 hq hP1 hD1 hS1
theorem kc_wiT {a : Array Value} {S : Type} {post : Int32 → S → Prop} {wsA : S → va_W} {C R1 R2 wc : va_W} (hr : va_Run p l e R s m args below meth c H locs cells slots 0 0 (F0 m pc ls st0) rest (va_Qi post (fun u t => va_P D vwCl (wsA u) t.heap) (va_A wc H.size) a) (va_A wc H.size)) (hP : va_P D vwCl ((C ++ R1) ++ R2) H) (hD : va_D A ((C ++ R1) ++ R2)) (hS : va_S A H0 H locs) (hA : ∀ q, H0.size ≤ q → A q) (is : List Nat) (hC : is.map (fun i => C[i]?) = wc.map some) (hf : ∀ u : S, (wsA u).map Prod.fst = wc.map Prod.fst)
    (kk : ∀ (r : Int32) (u : S) (H1 : Heap) (locs1 : List Loc), post r u → va_P D vwCl ((kput C is (wsA u) ++ R1) ++ R2) H1 → va_D A ((kput C is (wsA u) ++ R1) ++ R2) → va_S A H0 H1 locs1 → W p l e R s m args below meth c H1 locs1 cells slots Q (F0 m (pc + 3) ls (.int r :: rest))) : W p l e R s m args below meth c H locs cells slots Q (F0 m pc ls st0) := by
  have h1 : is.map (fun i => (C ++ R1)[i]?) = wc.map some := kc_ext hC
  refine kc_wi hr hP hD hS hA is (kc_ext h1) hf (fun r u H1 locs1 hq hP1 hD1 hS1 => ?_)
  rw [kput_app is (wsA u) (C ++ R1) R2 (kc_in h1), kput_app is (wsA u) C R1 (kc_in hC)] at hP1 hD1
  exact kk r u H1 locs1 hq hP1 hD1 hS1
theorem kcutT {C R1 R2 wc : va_W} (hP : va_P D vwCl ((C ++ R1) ++ R2) H) (is : List Nat) (hC : is.map (fun i => C[i]?) = wc.map some) : va_P D vwCl wc H := kcut hP is (kc_ext (kc_ext hC))
theorem kW.cutT {C R1 R2 wc : va_W} (hP : va_P D vwCl ((C ++ R1) ++ R2) H) (hD : va_D A ((C ++ R1) ++ R2)) (is : List Nat) (hC : is.map (fun i => C[i]?) = wc.map some) (hn : va_nd is = true) : kW D H.size wc H := kW.cut hP hD is (kc_ext (kc_ext hC)) hn
theorem kW.cutM {C M Rw wc : va_W} (hP : va_P D vwCl ((C ++ M) ++ Rw) H) (hD : va_D A ((C ++ M) ++ Rw)) (is : List Nat) (hC : is.map (fun i => C[i]?) = wc.map some) (hn : va_nd is = true) : kW D H.size (wc ++ Rw) H := kW.cutP hP hD is (kc_ext hC) hn
end KM
