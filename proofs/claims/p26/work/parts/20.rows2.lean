/-! calls whose callee has the inner rows too -/
theorem kjoinP {A0 : Nat → Prop} {D : va_G} {cl : List vw_C} {X R cx c1 R1 : va_W} {H H1 : Heap} (hP : va_P D cl (X ++ R) H) (hD : va_D A0 (X ++ R)) (is : List Nat) (hC : is.map (fun i => X[i]?) = cx.map some) (hA : c1.map Prod.fst = cx.map Prod.fst) (hR : R1.map Prod.fst = R.map Prod.fst) (hk : ∀ q : Nat, q < H.size → ¬ va_A (cx ++ R) H.size q → H1[q]? = H[q]?) (hP1 : va_P D cl (c1 ++ R1) H1) : va_P D cl (kput X is c1 ++ R1) H1 ∧ va_D A0 (kput X is c1 ++ R1) := by
  have hlen : is.length = c1.length := by
    have h1 := congrArg List.length hC
    have h2 := congrArg List.length hA
    simp only [List.length_map] at h1 h2
    omega
  have hf : (kput X is c1).map Prod.fst = X.map Prod.fst := kput_fst is c1 X (by
    have e1 : is.map (fun i => (X[i]?).map Prod.fst) = (is.map (fun i => X[i]?)).map (fun o => o.map Prod.fst) := by simp
    rw [e1, hC]
    have e2 : (c1.map (fun q => some q.1)) = (c1.map Prod.fst).map some := by simp
    rw [e2, hA]
    simp)
  have hXl : (kput X is c1).length = X.length := by simpa using congrArg List.length hf
  refine ⟨fun k q hq => ?_, kD_fst hD (by rw [List.map_append, List.map_append, hf, hR])⟩
  by_cases hkx : k < X.length
  · rw [List.getElem?_append_left (by omega)] at hq
    rcases kput_mem is c1 X k q hq with h1 | ⟨h1, h2⟩
    · obtain ⟨j, hj⟩ := List.getElem?_of_mem h1
      exact hP1 j q (by rw [List.getElem?_append_left (List.getElem?_eq_some_iff.mp hj).1]; exact hj)
    · have h1' : (X ++ R)[k]? = some q := by rw [List.getElem?_append_left hkx]; exact h1
      have h3 := hP k q h1'
      refine h3.kept (hk q.1 h3.lt (fun ha => ?_))
      rcases ha with ⟨j, e, hj⟩ | ha
      · by_cases hjc : j < cx.length
        · rw [List.getElem?_append_left hjc] at hj
          have h4 : (is.map (fun i => X[i]?))[j]? = some (some (q.1, e)) := by rw [hC, List.getElem?_map, hj]; rfl
          rw [List.getElem?_map] at h4
          cases hi : is[j]? with
          | none => rw [hi] at h4; cases h4
          | some i =>
            rw [hi] at h4
            have h5 : X[i]? = some (q.1, e) := Option.some.inj h4
            have h6 := hD.1 k i q (q.1, e) h1' (by rw [List.getElem?_append_left (List.getElem?_eq_some_iff.mp h5).1]; exact h5) rfl
            exact h2 hlen (h6 ▸ List.mem_of_getElem? hi)
        · rw [List.getElem?_append_right (by omega)] at hj
          have h6 := hD.1 k (X.length + (j - cx.length)) q (q.1, e) h1' (by rw [List.getElem?_append_right (by omega), Nat.add_sub_cancel_left]; exact hj) rfl
          omega
      · have := h3.lt
        omega
  · rw [List.getElem?_append_right (by omega)] at hq
    exact hP1 (c1.length + (k - (kput X is c1).length)) q (by rw [List.getElem?_append_right (by omega), Nat.add_sub_cancel_left]; exact hq)
theorem kW.cutP {D : va_G} {X R wc : va_W} {H : Heap} {A : Nat → Prop} (hP : va_P D vwCl (X ++ R) H) (hD : va_D A (X ++ R)) (is : List Nat) (hC : is.map (fun i => X[i]?) = wc.map some) (hn : va_nd is = true) : kW D H.size (wc ++ R) H := ⟨rfl, hP.part is hC, (hD.part is hn hC).weaken (fun _ _ _ _ => trivial)⟩
section KP
variable {p : Program} {l : Launch} {e : Env} {R : Room} {s : State} {m : MethodId} {args : Array Value} {below : List Frame} {meth : Method} {c : Code} {H : Heap} {locs : List Loc} {cells slots : Nat} {Q : State → Prop}
variable {cc : ByteArray} {pc : Nat} {ls : Array Slot} {rest st0 : List Value} {a : Array Value} {D : va_G} {cl : List vw_C} {A : Nat → Prop} {H0 : Heap}
theorem kc_wiP {S : Type} {post : Int32 → S → Prop} {wsA rA : S → va_W} {X Rw wc : va_W} (hr : va_Run p l e R s m args below meth c H locs cells slots 0 0 (F0 m pc ls st0) rest (va_Qi post (fun u t => va_P D cl (wsA u ++ rA u) t.heap) (va_A (wc ++ Rw) H.size) a) (va_A (wc ++ Rw) H.size)) (hP : va_P D cl (X ++ Rw) H) (hD : va_D A (X ++ Rw)) (hS : va_S A H0 H locs) (hA : ∀ q, H0.size ≤ q → A q) (is : List Nat) (hC : is.map (fun i => X[i]?) = wc.map some) (hf : ∀ u : S, (wsA u).map Prod.fst = wc.map Prod.fst) (hg : ∀ u : S, (rA u).map Prod.fst = Rw.map Prod.fst)
    (kk : ∀ (r : Int32) (u : S) (H1 : Heap) (locs1 : List Loc), post r u → va_P D cl (kput X is (wsA u) ++ rA u) H1 → va_D A (kput X is (wsA u) ++ rA u) → va_S A H0 H1 locs1 → W p l e R s m args below meth c H1 locs1 cells slots Q (F0 m (pc + 3) ls (.int r :: rest))) : W p l e R s m args below meth c H locs cells slots Q (F0 m pc ls st0) := by
  have hF := va_freeP (pl := Rw) hD hS hA is hC
  refine va_calli hr hS (fun q _ h => hF q h) hF (fun r u t H1 locs1 ht hvm hw hB hz1 hk1 hS1 => ?_)
  obtain ⟨g1, g2⟩ := kjoinP (c1 := wsA u) (R1 := rA u) hP hD is hC (hf u) (hg u) hk1 (ht ▸ hB)
  exact kk r u H1 locs1 hw g1 g2 hS1
theorem kc_wvP {S : Type} {post : S → Prop} {wsA rA : S → va_W} {X Rw wc : va_W} (hr : va_Run p l e R s m args below meth c H locs cells slots 0 0 (F0 m pc ls st0) rest (va_Qv post (fun u t => va_P D cl (wsA u ++ rA u) t.heap) (va_A (wc ++ Rw) H.size) a) (va_A (wc ++ Rw) H.size)) (hP : va_P D cl (X ++ Rw) H) (hD : va_D A (X ++ Rw)) (hS : va_S A H0 H locs) (hA : ∀ q, H0.size ≤ q → A q) (is : List Nat) (hC : is.map (fun i => X[i]?) = wc.map some) (hf : ∀ u : S, (wsA u).map Prod.fst = wc.map Prod.fst) (hg : ∀ u : S, (rA u).map Prod.fst = Rw.map Prod.fst)
    (kk : ∀ (u : S) (H1 : Heap) (locs1 : List Loc), post u → va_P D cl (kput X is (wsA u) ++ rA u) H1 → va_D A (kput X is (wsA u) ++ rA u) → va_S A H0 H1 locs1 → W p l e R s m args below meth c H1 locs1 cells slots Q (F0 m (pc + 3) ls rest)) : W p l e R s m args below meth c H locs cells slots Q (F0 m pc ls st0) := by
  have hF := va_freeP (pl := Rw) hD hS hA is hC
  refine va_callv hr hS (fun q _ h => hF q h) hF (fun u t H1 locs1 ht hvm hw hB hz1 hk1 hS1 => ?_)
  obtain ⟨g1, g2⟩ := kjoinP (c1 := wsA u) (R1 := rA u) hP hD is hC (hf u) (hg u) hk1 (ht ▸ hB)
  exact kk u H1 locs1 hw g1 g2 hS1
end KP
