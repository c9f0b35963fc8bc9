/-! the lake's two tables -/
def mvF (k : Nat) : Int := if k ≤ 1 then 30 else if k ≤ 3 then 100 else if k = 4 then 30 else if k ≤ 8 then 200 else 999
def fvF (k : Nat) : Int := if k ≤ 1 then 10 else 0
theorem mvF_rng (k : Nat) : 30 ≤ mvF k ∧ mvF k ≤ 999 := by
  unfold mvF
  split
  · omega
  · split
    · omega
    · split
      · omega
      · split <;> omega
def kMV (nm : String) (F : Nat → Int) (mv : Nat) (A : Nat → Prop) (U : State) (H : Heap) : Prop := va_Z RX2 nm "[I" (.ref mv) A U H ∧ va_T .int mv 10 (fun j => .int (iz (F j))) A U H
theorem kMV.moved {nm : String} {F : Nat → Int} {mv : Nat} {A : Nat → Prop} {u U : State} {H : Heap} (hvm : u.vm.Alike U.vm) (h : kMV nm F mv A u H) : kMV nm F mv A U H := ⟨va_Z.moved hvm h.1, va_T.moved hvm h.2⟩
theorem kMV.kept {nm : String} {F : Nat → Int} {mv : Nat} {A : Nat → Prop} {U : State} {H H1 : Heap} (h : kMV nm F mv A U H) (hq : ∀ a : Nat, a < H.size → ¬ A a → H1[a]? = H[a]?) : kMV nm F mv A U H1 := ⟨h.1.kept hq, h.2.kept hq⟩
theorem kMV.narrow {nm : String} {F : Nat → Int} {mv : Nat} {A B : Nat → Prop} {U : State} {H : Heap} (h : kMV nm F mv A U H) (hAB : ∀ q, B q → A q) : kMV nm F mv B U H := ⟨h.1.narrow hAB, h.2.narrow hAB⟩
def kPcM (D : va_G) (T : Nat → ClassId) (av : List Value) (nm : String) (F : Nat → Int) (mv : Nat) (A : Nat → Prop) (Φ : Heap → Prop) : Array Value → State → Prop := fun v U => v = av.toArray ∧ kK D T U ∧ kMV nm F mv A U U.heap ∧ Φ U.heap
theorem kPcM.blind {D : va_G} {T : Nat → ClassId} {av : List Value} {nm : String} {F : Nat → Int} {mv : Nat} {A : Nat → Prop} {Φ : Heap → Prop} : FrameBlind (kPcM D T av nm F mv A Φ) := fun _ U g mk h => ⟨h.1, h.2.1.calling, kMV.moved (u := U) (U := U.calling g mk _) (Vm.Alike.refl U.vm) h.2.2.1, h.2.2.2⟩
theorem kPcM.v {D : va_G} {T : Nat → ClassId} {As : List Value} {nm : String} {F : Nat → Int} {mv : Nat} {A : Nat → Prop} {Φ : Heap → Prop} {s : State} {H : Heap} {C : String} {b : Addr} (hK : kK D T s) (hr : ∃ cell : Cell, H[b]? = some cell ∧ cell.vm.isStatics = false ∧ s.vm.findClass C = some cell.cls) (hM : kMV nm F mv A s H) (h : Φ H) : PreV s H C b (kPcM D T (.ref b :: As) nm F mv A Φ) As := ⟨kPcM.blind, hr, fun U hU hW => ⟨rfl, hK.warm hW, kMV.moved hW.alike (by rw [hU]; exact hM), by rw [hU]; exact h⟩⟩
theorem kz_tin {z : Int} {n : Nat} (h : 0 ≤ z ∧ z < (n : Int)) (hn : n ≤ 1000000) : vp_in (iz z) n ∧ (iz z).toNatClampNeg = z.toNat := by
  obtain ⟨j, rfl⟩ := Int.eq_ofNat_of_zero_le h.1
  rw [iz_nI]
  exact ⟨vp_in_nI (by omega) (by omega), (nI_clamp (by omega)).trans (by omega)⟩
def lk_fb (Z : Nat → Int) (st v : Int) : Bool := decide ((st = 5 → v ≤ Z 6) ∧ (st = 6 → Z 5 ≤ v) ∧ (st = 0 → ∀ h : Nat, h < 24 → -v ≤ Z (58 + h) ∧ Z (58 + h) ≤ Z 1) ∧ (st = 1 → ∀ h : Nat, h < 24 → -(Z 0) ≤ Z (58 + h) ∧ Z (58 + h) ≤ v))
theorem lk_fb_iff {Z : Nat → Int} {st v : Int} : lk_fb Z st v = true ↔ lk_fits Z st v := decide_eq_true_iff
def lk_rSet (Z : Nat → Int) (st v : Int) : Int := if (0 ≤ st ∧ st < 10) ∧ 0 ≤ v ∧ v ≤ mvF st.toNat then (if lk_fb Z st v = true then Z st.toNat else -5) else -2
def lk_zSet (Z : Nat → Int) (st v : Int) : Nat → Int := if ((0 ≤ st ∧ st < 10) ∧ 0 ≤ v ∧ v ≤ mvF st.toNat) ∧ lk_fb Z st v = true then zup Z st.toNat v else Z
def lk_vSet (Z : Nat → Int) (st v ve : Int) : Int := if ((0 ≤ st ∧ st < 10) ∧ 0 ≤ v ∧ v ≤ mvF st.toNat) ∧ lk_fb Z st v = true then ve + 1 else ve
