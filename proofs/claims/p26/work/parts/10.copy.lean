/-! rows of ints copied whole: the source lies outside of what is written -/
theorem zmix_copy {scr : Cell} {cA : ClassId} {n0 n1 n : Nat} {F G : Nat → Int} (hsz : scr.slots.size = n0) (hval : ∀ j : Nat, j < n0 → scr.slots[j]? = some (.int (zA F j))) (h0 : n ≤ n0) (hn : n < 2147483648) : copied scr (vp_cell cA (n1, .inl (zA G))) (iz 0) (iz 0) (iz (n : Int)) = vp_cell cA (n1, .inl (zA (zmix n F G))) := by
  have z0 : (iz 0).toNatClampNeg = 0 := by decide
  have zn : (iz (n : Int)).toNatClampNeg = n := by rw [iz_nI]; exact nI_clamp hn
  have e : scr.stretch 0 n = (List.range n).map (fun i => Value.int (zA F i)) := by
    unfold Cell.stretch
    apply List.map_congr_left
    intro i hi
    have hi' := List.mem_range.mp hi
    rw [Array.getD_eq_getD_getElem?, Nat.zero_add, hval i (by omega)]
    rfl
  unfold copied
  rw [z0, zn, e]
  show (arrV cA n1 (fun j => .int (zA G j))).storeRun 0 _ = arrV cA n1 (fun j => .int (zA (zmix n F G) j))
  rw [Cell.storeRun, va_pairs]
  congr 1
  funext k
  simp only [List.length_map, List.length_range, Nat.zero_add, Nat.sub_zero]
  show _ = Value.int (iz (zmix n F G k))
  unfold zmix
  by_cases h : k < n
  · rw [if_pos ⟨Nat.zero_le _, h⟩, if_pos h, List.getD_eq_getElem?_getD, List.getElem?_map, List.getElem?_range h]
    rfl
  · rw [if_neg (fun q => h q.2), if_neg h]
    rfl
section KX
variable {p : Program} {l : Launch} {e : Env} {R : Room} {s : State} {m : MethodId} {args : Array Value} {below : List Frame} {meth : Method} {c : Code} {H : Heap} {locs : List Loc} {cells slots : Nat} {Q : State → Prop}
variable {cc : ByteArray} {pc : Nat} {ls : Array Slot} {rest : List Value} {D : va_G} {A : Nat → Prop} {T : Nat → ClassId}
theorem k_copyX (hx : p.tables.exec = Jvm.exec) (hb : c.code = cc) (hml : c.maxLocals = ls.size) {own : String} {index : Nat} (hown : s.vm.findClass own = some m.cls) (hlink : (Cond.methodLink own index arraycopyName).before args s = true) (hnat : (Cond.native arraycopyName).before args s = true) (hstat : (Cond.static arraycopyName).before args s = true) (hini : (Cond.initialized "java/lang/System").before args s = true)
    (hK : kK D T s) {ws : va_W} (hP : va_P D vwCl ws H) (hD : va_D A ws) (hS : va_S A s.heap H locs) {b n0 : Nat} {F : Nat → Int} (hX : va_X b n0 (zA F) s s.heap) (hbl : b < s.heap.size) (hbA : ¬ A b) (q1 : Nat) {a n1 : Nat} {G : Nat → Int} (ha1 : ws[q1]? = some (a, .inl (T 0, n1, .inl (zA G)))) (n : Nat) (hn0 : n ≤ n0) (hn1 : n ≤ n1) (hnb : n1 ≤ 1000000)
    (hframes : 1 ≤ R.frames) (hlocals : (rest.map fun v => v.category).sum + (nativeFrameWords "java/lang/System" "arraycopy" 5 + 11) ≤ R.locals) (hdg : decode cc pc = .ok (.invokestatic index, 3))
    (kk : ∀ (H1 : Heap) (locs1 : List Loc), va_P D vwCl (ws.set q1 (a, .inl (T 0, n1, .inl (zA (zmix n F G))))) H1 → va_D A (ws.set q1 (a, .inl (T 0, n1, .inl (zA (zmix n F G))))) → va_S A s.heap H1 locs1 → W p l e R s m args below meth c H1 locs1 cells slots Q (F0 m (pc + 3) ls rest)) : W p l e R s m args below meth c H locs cells slots Q (F0 m pc ls (.int (iz (n : Int)) :: .int (iz 0) :: .ref a :: .int (iz 0) :: .ref b :: rest)) := by
  intro St hT X
  obtain ⟨scr, hcb, hof, hkn, hsz, hval⟩ := hX
  have hc0 : H[b]? = some scr := by rw [hS.2.1 b hbl hbA]; exact hcb
  have hc1 : H[a]? = some (vp_cell (T 0) (n1, .inl (zA G))) := hP q1 _ ha1
  obtain ⟨hobj, k0, hk0, cm0, hkk0⟩ := hof
  obtain ⟨-, k1, hk1, cm1, hkk1⟩ := (hK.1.2 0 _ rfl).1 n1 (fun j => .int (zA G j))
  have z0 : (iz 0).toNatClampNeg = 0 := by decide
  have zn : (iz (n : Int)).toNatClampNeg = n := by rw [iz_nI]; exact nI_clamp (by omega)
  have t0 : (iz 0).toInt = 0 := by decide
  have tn : (iz (n : Int)).toInt = (n : Int) := iz_toInt (by omega)
  obtain ⟨vm', X', step⟩ := X.arraycopy hx hown hlink hnat hstat hini (src := b) (dst := a) (cs := scr) (cd := vp_cell (T 0) (n1, .inl (zA G))) (srcPos := iz 0) (destPos := iz 0) (n := iz (n : Int)) (by rw [hT]; exact hc0) (by rw [hT]; exact hc1)
    hobj (fun _ h => by cases h) hkn (fun h => by cases h) hk0 hk1 hkk0 hkk1 (by rfl) (by decide) (by decide) (by rw [iz_nI]; exact nI_pos (by omega))
    (by rw [t0, tn, hsz]; omega)
    (by rw [t0, tn]; show ¬ _ > ((arrV (T 0) n1 (fun j => .int (zA G j))).slots.size : Int); rw [arrV_size]; omega)
    (fun vm₁ _ i hi => by
      rw [zn] at hi
      have e : scr.slots.getD ((iz 0).toNatClampNeg + i) .null = .int (zA F i) := by
        rw [z0, Nat.zero_add, Array.getD_eq_getD_getElem?, hval i (by omega)]
        rfl
      rw [e]
      exact ⟨rfl, trivial⟩)
    (g := F0 m pc ls (.int (iz (n : Int)) :: .int (iz 0) :: .ref a :: .int (iz 0) :: .ref b :: rest)) rfl (by rw [hml]) (rest := rest) rfl (by rw [hb]; exact hdg) hframes (by show 2 * 0 + _ + _ ≤ _; omega)
  rw [zmix_copy hsz hval hn0 (by omega)] at X' step
  have hl : a < H.size := (Array.getElem?_eq_some_iff.mp hc1).1
  have oq : ∀ q : Nat, q ≠ a → (H.setIfInBounds a (vp_cell (T 0) (n1, .inl (zA (zmix n F G)))))[q]? = H[q]? := fun q hq => by simp [Array.getElem?_setIfInBounds, Ne.symm hq]
  have hheap : ((St.setVm vm').setCell a (vp_cell (T 0) (n1, .inl (zA (zmix n F G))))).heap = H.setIfInBounds a (vp_cell (T 0) (n1, .inl (zA (zmix n F G)))) := by rw [← hT]; rfl
  obtain ⟨t, a1, b1⟩ := kk _ _ (hP.set hD ha1 (show (H.setIfInBounds a _)[a]? = some _ by simp [Array.getElem?_setIfInBounds, hl]) oq) (hD.set ha1) ⟨by simp; exact hS.1, fun q g1 g2 => by
      rw [oq q (fun e => g2 (by rw [e]; exact hD.2 q1 _ ha1))]
      exact hS.2.1 q g1 g2, fun q hq => by
      rcases List.mem_append.mp hq with h | h
      · exact hS.2.2 q h
      · obtain ⟨z, -, hz⟩ := List.mem_map.mp h
        rw [← hz]
        exact hD.2 q1 _ ha1⟩ _ hheap X'
  exact ⟨t, step t a1, b1⟩
end KX
/-- as kPc, with a row of ints that is only read, wherever it lies -/
def kPcX (D : va_G) (T : Nat → ClassId) (av : List Value) (b n : Nat) (F : Nat → Int) (Φ : Heap → Prop) : Array Value → State → Prop := fun v U => v = av.toArray ∧ kK D T U ∧ va_X b n (zA F) U U.heap ∧ Φ U.heap
theorem kPcX.blind {D : va_G} {T : Nat → ClassId} {av : List Value} {b n : Nat} {F : Nat → Int} {Φ : Heap → Prop} : FrameBlind (kPcX D T av b n F Φ) := fun _ U g mk h => ⟨h.1, h.2.1.calling, va_X.moved (u := U) (U := U.calling g mk _) (Vm.Alike.refl U.vm) h.2.2.1, h.2.2.2⟩
theorem kPcX.s {D : va_G} {T : Nat → ClassId} {As : List Value} {b n : Nat} {F : Nat → Int} {Φ : Heap → Prop} {s : State} {H : Heap} (hK : kK D T s) (hX : va_X b n (zA F) s H) (h : Φ H) : PreS s H (kPcX D T As b n F Φ) As := ⟨kPcX.blind, fun U hU hW => ⟨rfl, hK.warm hW, va_X.moved hW.alike (by rw [hU]; exact hX), by rw [hU]; exact h⟩⟩
/-- a row of a world, as such a source -/
theorem va_X.world {D : va_G} {T : Nat → ClassId} {ws : va_W} {s : State} {H : Heap} {b n q0 : Nat} {F : Nat → Int} (hK : kK D T s) (hP : va_P D vwCl ws H) (h : ws[q0]? = some (b, .inl (T 0, n, .inl (zA F)))) : va_X b n (zA F) s H := ⟨_, hP q0 _ h, (hK.1.2 0 _ rfl).1 n _, (fun h => by cases h), arrV_size _ _ _, fun j hj => arrV_read _ _ hj⟩
