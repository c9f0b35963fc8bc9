/-! what a constructor makes; worlds in another order -/
theorem kP_perm {D : va_G} {cl : List vw_C} {W V : va_W} {H : Heap} (hp : W.Perm V) (h : va_P D cl W H) : va_P D cl V H := fun k q hk => by
  obtain ⟨i, hi⟩ := List.getElem?_of_mem (hp.mem_iff.mpr (List.mem_of_getElem? hk))
  exact h i q hi
theorem kD_nodup {A : Nat → Prop} {W : va_W} : va_D A W ↔ (W.map Prod.fst).Nodup ∧ ∀ q, q ∈ W → A q.1 := by
  unfold va_D List.Nodup
  rw [List.pairwise_iff_getElem]
  constructor
  · rintro ⟨h1, h2⟩
    refine ⟨fun i j hi hj hij hc => ?_, fun q hq => ?_⟩
    · rw [List.length_map] at hi hj
      rw [List.getElem_map, List.getElem_map] at hc
      have := h1 i j W[i] W[j] (List.getElem?_eq_getElem hi) (List.getElem?_eq_getElem hj) hc
      omega
    · obtain ⟨i, hi⟩ := List.getElem?_of_mem hq
      exact h2 i q hi
  · rintro ⟨h1, h2⟩
    refine ⟨fun i j p q hi hj hpq => ?_, fun k q hk => h2 q (List.mem_of_getElem? hk)⟩
    obtain ⟨hil, rfl⟩ := List.getElem?_eq_some_iff.mp hi
    obtain ⟨hjl, rfl⟩ := List.getElem?_eq_some_iff.mp hj
    rcases Nat.lt_trichotomy i j with w | w | w
    · exact absurd (by rw [List.getElem_map, List.getElem_map]; exact hpq) (h1 i j (by rw [List.length_map]; exact hil) (by rw [List.length_map]; exact hjl) w)
    · exact w
    · exact absurd (by rw [List.getElem_map, List.getElem_map]; exact hpq.symm) (h1 j i (by rw [List.length_map]; exact hjl) (by rw [List.length_map]; exact hil) w)
theorem kD_perm {A : Nat → Prop} {W V : va_W} (hp : W.Perm V) (h : va_D A W) : va_D A V := by
  rw [kD_nodup] at h ⊢
  exact ⟨(hp.map Prod.fst).nodup_iff.mp h.1, fun q hq => h.2 q (hp.mem_iff.mpr hq)⟩
/-- the segments of a world in another order -/
theorem kSeg (L : List va_W) (is : List Nat) (h : is.isPerm (List.range L.length) = true) : L.flatten.Perm (is.map (fun i => L.getD i [])).flatten := by
  have h1 : (is.map (fun i => L.getD i [])).Perm ((List.range L.length).map (fun i => L.getD i [])) := (List.isPerm_iff.mp h).map _
  have h2 : (List.range L.length).map (fun i => L.getD i []) = L := by
    apply List.ext_getElem
    · rw [List.length_map, List.length_range]
    · intro i h3 h4
      rw [List.getElem_map, List.getElem_range, List.getD_eq_getElem?_getD, List.getElem?_eq_getElem h4]
      rfl
  rw [h2] at h1
  exact h1.flatten.symm
theorem kRe {L : List va_W} {W V : va_W} (is : List Nat) (h : is.isPerm (List.range L.length) = true) (hW : W = L.flatten) (hV : V = (is.map (fun i => L.getD i [])).flatten) : W.Perm V := by
  rw [hW, hV]
  exact kSeg L is h
theorem kw_iz0 : (iz 0 : Int32) = 0 := rfl
section NK
variable {p : Program} {l : Launch} {e : Env} {R : Room} {s : State} {m : MethodId} {args : Array Value} {below : List Frame} {meth : Method} {c : Code} {H : Heap} {locs : List Loc} {cells slots : Nat} {Q : State → Prop}
variable {cc : ByteArray} {pc : Nat} {ls : Array Slot} {rest st0 : List Value} {D : va_G} {A : Nat → Prop} {H0 : Heap} {T : Nat → ClassId} {a : Array Value}
theorem kz_newa (hx : p.tables.exec = Jvm.exec) (hb : c.code = cc) (hK : kK D T s) {ws : va_W} (hP : va_P D vwCl ws H) (hD : va_D A ws) (hS : va_S A H0 H locs) (hA : ∀ q, H0.size ≤ q → A q) {atype : ArrayType} (t : Nat) (hT : (kT T)[t]? = some (T t, newarray.typeOf atype)) (harr : (Cond.arrayClass (newarray.typeOf atype)).before args s = true) (hd : defaultValue (newarray.typeOf atype) = .int 0) {N : Nat} {z : Int} (hz : z = (N : Int)) (hN : N ≤ 100000) (hby : N * componentBytes (newarray.typeOf atype) ≤ 536870912) (hcells : cells + 1 ≤ R.cells) (hslots : slots + N ≤ R.slots) (hdg : decode cc pc = .ok (.newarray atype, 2))
    (kk : ∀ (q : Nat) (H1 : Heap), va_P D vwCl (ws ++ [(q, .inl (T t, N, .inl (zA (fun _ => 0))))]) H1 → va_D A (ws ++ [(q, .inl (T t, N, .inl (zA (fun _ => 0))))]) → va_S A H0 H1 locs → W p l e R s m args below meth c H1 locs (cells + 1) (slots + N) Q (F0 m (pc + 2) ls (.ref q :: rest))) : W p l e R s m args below meth c H locs cells slots Q (F0 m pc ls (.int (iz z) :: rest)) := by
  subst hz
  rw [iz_nI]
  refine va_newa (N' := N) (a0 := (N, .inl (zA (fun _ => 0)))) hx hb harr rfl hK.1 hP hD hS hA (fun cA => by rw [hd]; rfl) (nI_pos (by omega)) (nI_clamp (by omega)) hby hcells hslots hdg (fun q cA H1 hK1 hP1 hD1 hS1 => ?_)
  have e : cA = T t := by
    have h1 := (hK1.2 (kT T).length (cA, newarray.typeOf atype) (by rw [List.getElem?_append_right (Nat.le_refl _), Nat.sub_self]; rfl)).2
    have h2 := (hK.1.2 t (T t, newarray.typeOf atype) hT).2
    cases atype <;> exact Option.some.inj ((show _ = some cA from h1).symm.trans h2)
  subst e
  exact kk q H1 hP1 hD1 hS1
/-- a call of a constructor: what it gets goes, what it leaves comes -/
theorem kc_new {S : Type} {post : S → Prop} {wsA : S → va_W} {ws wc F : va_W} {mc ms : Nat} (hr : va_Run p l e R s m args below meth c H locs cells slots mc ms (F0 m pc ls st0) rest (va_Qv post (fun u t => va_P D vwCl (wsA u) t.heap ∧ va_D (va_A wc H.size) (wsA u)) (va_A wc H.size) a) (va_A wc H.size)) (hP : va_P D vwCl ws H) (hD : va_D A ws) (hS : va_S A H0 H locs) (hA : ∀ q, H0.size ≤ q → A q) (hp : ws.Perm (wc ++ F))
    (kk : ∀ (u : S) (H1 : Heap) (locs1 : List Loc), post u → va_P D vwCl (wsA u ++ F) H1 → va_D A (wsA u ++ F) → va_S A H0 H1 locs1 → W p l e R s m args below meth c H1 locs1 (cells + mc) (slots + ms) Q (F0 m (pc + 3) ls rest)) : W p l e R s m args below meth c H locs cells slots Q (F0 m pc ls st0) := by
  have hP' := kP_perm hp hP
  have hD' := kD_nodup.mp (kD_perm hp hD)
  rw [List.map_append, List.nodup_append] at hD'
  obtain ⟨⟨hn1, hn2, hn3⟩, hAA⟩ := hD'
  have hF : ∀ q, va_A wc H.size q → A q := by
    rintro q (⟨k, e1, hk⟩ | h)
    · exact hAA (q, e1) (List.mem_append_left _ (List.mem_of_getElem? hk))
    · exact hA q (Nat.le_trans hS.1 h)
  have hFP : ∀ q : Nat × va_E, q ∈ F → q.1 < H.size ∧ ¬ va_A wc H.size q.1 := fun q hq => by
    obtain ⟨i, hi⟩ := List.getElem?_of_mem (List.mem_append_right wc hq)
    have hlt := (hP' i q hi).lt
    refine ⟨hlt, ?_⟩
    rintro (⟨k, e1, hk⟩ | h)
    · exact hn3 q.1 (List.mem_map_of_mem (f := Prod.fst) (a := (q.1, e1)) (List.mem_of_getElem? hk)) q.1 (List.mem_map_of_mem (f := Prod.fst) hq) rfl
    · omega
  refine va_callv hr hS (fun q _ h => hF q h) hF (fun u t H1 locs1 ht hvm hw hB hz1 hk1 hS1 => ?_)
  obtain ⟨hP1, hD1⟩ := hB
  rw [ht] at hP1
  have hPF : va_P D vwCl F H := fun k q hk => by
    obtain ⟨i, hi⟩ := List.getElem?_of_mem (List.mem_append_right wc (List.mem_of_getElem? hk))
    exact hP' i q hi
  have hPF1 : va_P D vwCl F H1 := hPF.kept (fun k q hk => hk1 q.1 (hFP q (List.mem_of_getElem? hk)).1 (hFP q (List.mem_of_getElem? hk)).2)
  refine kk u H1 locs1 hw (hP1.app hPF1) (kD_nodup.mpr ?_) hS1
  obtain ⟨hd1, hd2⟩ := kD_nodup.mp hD1
  refine ⟨?_, fun q hq => ?_⟩
  · rw [List.map_append, List.nodup_append]
    refine ⟨hd1, hn2, fun x hx y hy hxy => ?_⟩
    obtain ⟨q1, h1, rfl⟩ := List.mem_map.mp hx
    obtain ⟨q2, h2, rfl⟩ := List.mem_map.mp hy
    exact (hFP q2 h2).2 (hxy ▸ hd2 q1 h1)
  · rcases List.mem_append.mp hq with h | h
    · exact hF _ (hd2 q h)
    · exact hAA q (List.mem_append_right _ h)
end NK
