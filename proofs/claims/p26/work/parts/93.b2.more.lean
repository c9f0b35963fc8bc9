/-! what water needs besides -/
section KU
variable {p : Program} {l : Launch} {e : Env} {R : Room} {s : State} {m : MethodId} {args : Array Value} {below : List Frame} {meth : Method} {c : Code} {H : Heap} {locs : List Loc} {cells slots : Nat} {Q : State → Prop}
variable {cc : ByteArray} {pc : Nat} {ls : Array Slot} {rest st0 : List Value} {D : va_G} {A : Nat → Prop} {H0 : Heap} {T : Nat → ClassId}
theorem kz_ior0 (hx : p.tables.exec = Jvm.exec) (hb : c.code = cc) {x : Int} (hdg : decode cc pc = .ok (.ior, 1)) (kk : W p l e R s m args below meth c H locs cells slots Q (F0 m (pc + 1) ls (.int (iz x) :: rest))) : W p l e R s m args below meth c H locs cells slots Q (F0 m pc ls (.int (iz 0) :: .int (iz x) :: rest)) := lv_ior hx hb hdg (by rw [iz_0, Int32.or_zero]; exact kk)
end KU
theorem pf_cause_rng {Z : Nat → Int} {n : Nat} (hn : n < 24) : -6 ≤ dy_ca Z n ∧ dy_ca Z n < (n : Int) := by
  rcases pf_cause (Z := Z) (n := n) with h | ⟨c, h, h2, -⟩
  · rw [h]
    omega
  · rw [h]
    omega
