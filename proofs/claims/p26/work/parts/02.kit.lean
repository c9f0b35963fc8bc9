/-! nest words, what every contract carries, calls that only read, calls that write, arrays -/
def kNest : List Cond := [.methodLinkNest RX6 9 yX2_init "LakePlant", .methodLinkNest RX2 22 yX6_copyRow "LakePlant", .fieldLinkNest RX5 44 "LakePlant$Lake" "version" "I" "LakePlant", .methodLinkNest RX6 18 yX0_init "LakePlant", .fieldLinkNest RX6 111 "LakePlant$Course" "letDown" "[I" "LakePlant", .fieldLinkNest RX6 115 "LakePlant$Course" "pumped" "[I" "LakePlant", .fieldLinkNest RX6 118 "LakePlant$Course" "lost" "[I" "LakePlant", .fieldLinkNest RX6 121 "LakePlant$Course" "spilled" "[I" "LakePlant", .fieldLinkNest RX6 124 "LakePlant$Course" "level" "[I" "LakePlant", .fieldLinkNest RX6 127 "LakePlant$Course" "money" "[I" "LakePlant", .fieldLinkNest RX6 131 "LakePlant$Course" "trouble" "[I" "LakePlant", .fieldLinkNest RX6 134 "LakePlant$Course" "cause" "[I" "LakePlant", .methodLinkNest RX6 27 yX5_init "LakePlant", .fieldLinkNest RX6 191 "LakePlant$Search" "plan" "[I" "LakePlant", .fieldLinkNest RX6 187 "LakePlant$Search" "found" "Z" "LakePlant", .methodLinkNest RX6 34 yX3_init "LakePlant", .fieldLinkNest RX6 174 "LakePlant$Pad" "length" "I" "LakePlant", .methodLinkNest RX6 41 yX4_init "LakePlant", .methodLinkNest RX6 50 yX1_init "LakePlant", .fieldLinkNest RX6 178 "LakePlant$History" "length" "I" "LakePlant", .methodLinkNest RX6 99 yX0_follow "LakePlant", .methodLinkNest RX0 40 yX2_settingOf "LakePlant", .methodLinkNest RX0 50 yX6_isHour "LakePlant", .methodLinkNest RX0 54 yX2_planOf "LakePlant", .methodLinkNest RX0 57 yX2_pumpedBy "LakePlant", .methodLinkNest RX0 60 yX2_filledLevel "LakePlant", .methodLinkNest RX0 64 yX2_wantedBy "LakePlant", .methodLinkNest RX0 67 yX2_letDownOf "LakePlant", .methodLinkNest RX0 70 yX2_lossOf "LakePlant", .methodLinkNest RX0 73 yX2_spilledOf "LakePlant", .methodLinkNest RX0 76 yX2_earnedBy "LakePlant", .methodLinkNest RX0 79 yX2_priceOf "LakePlant", .methodLinkNest RX0 86 yX2_missedIn "LakePlant", .methodLinkNest RX6 153 yX0_levelInTheEnd "LakePlant", .methodLinkNest RX6 156 yX0_hoursWith "LakePlant", .methodLinkNest RX6 159 yX0_missedContracts "LakePlant", .methodLinkNest RX6 162 yX2_settingOf "LakePlant", .methodLinkNest RX6 165 yX2_allInflows "LakePlant", .methodLinkNest RX6 171 yX2_contracts "LakePlant", .methodLinkNest RX6 102 yX2_priceOf "LakePlant", .methodLinkNest RX6 105 yX2_inflowOf "LakePlant", .methodLinkNest RX6 108 yX2_planOf "LakePlant", .methodLinkNest RX6 168 yX0_setOf "LakePlant", .methodLinkNest RX6 179 yX5_solve "LakePlant", .methodLinkNest RX5 49 yX2_settingOf "LakePlant", .methodLinkNest RX5 54 yX2_lossOf "LakePlant", .methodLinkNest RX5 67 yX2_earnedBy "LakePlant", .methodLinkNest RX5 71 yX2_spilledOf "LakePlant", .methodLinkNest RX5 77 yX2_letDownOf "LakePlant", .methodLinkNest RX5 83 yX6_isHour "LakePlant", .methodLinkNest RX5 92 yX2_priceOf "LakePlant", .methodLinkNest RX5 95 yX2_inflowOf "LakePlant", .methodLinkNest RX5 114 yX2_pumpedBy "LakePlant", .methodLinkNest RX5 117 yX2_filledLevel "LakePlant", .methodLinkNest RX5 120 yX2_wantedBy "LakePlant", .methodLinkNest RX5 110 yX2_levelBehind "LakePlant", .methodLinkNest RX6 182 yX5_mostFrom "LakePlant", .methodLinkNest RX6 194 yX2_highestInTheEnd "LakePlant", .methodLinkNest RX6 64 yX1_keepAside "LakePlant", .methodLinkNest RX1 25 yX2_copyTo "LakePlant", .methodLinkNest RX6 75 yX2_changePrice "LakePlant", .methodLinkNest RX2 51 yX6_isHour "LakePlant", .methodLinkNest RX6 71 yX1_recordUnlessError "LakePlant", .methodLinkNest RX6 78 yX2_changeInflow "LakePlant", .methodLinkNest RX6 81 yX2_changePlan "LakePlant", .methodLinkNest RX6 84 yX2_addContract "LakePlant", .methodLinkNest RX6 88 yX2_removeContract "LakePlant", .methodLinkNest RX6 67 yX2_changeSetting "LakePlant", .methodLinkNest RX6 221 yX1_takeBack "LakePlant", .methodLinkNest RX1 35 yX2_copyFrom "LakePlant"]
def kNestOk : Cond → Bool
  | .methodLinkNest .. => true
  | .fieldLinkNest .. => true
  | _ => false
theorem kN_ok : ∀ w ∈ kNest, kNestOk w = true := by decide +kernel
theorem kN_warm {w : Cond} (hw : kNestOk w = true) {s U : State} (hW : s.WarmedH U.vm) (h : va_Nw w s) : va_Nw w U := by
  unfold kNestOk at hw
  split at hw
  · exact va_Nw.warmM hW h
  · exact va_Nw.warmF hW h
  · cases hw
theorem kN_same {w : Cond} (hw : kNestOk w = true) {s U : State} (hW : s.vm = U.vm) (h : va_Nw w s) : va_Nw w U := by
  unfold kNestOk at hw
  split at hw
  · exact va_Nw.same rfl hW h
  · exact va_Nw.same rfl hW h
  · cases hw
abbrev kT (T : Nat → ClassId) : List (ClassId × FieldType) := [(T 0, .int), (T 1, .array .int), (T 2, .boolean), (T 3, .char)]
/-- the tables, as every contract carries them -/
def kK (D : va_G) (T : Nat → ClassId) (U : State) : Prop := va_K D vwCl (kT T) U ∧ ∀ w ∈ kNest, va_Nw w U
theorem kK.warm {D : va_G} {T : Nat → ClassId} {s U : State} (hW : s.WarmedH U.vm) (h : kK D T s) : kK D T U := ⟨va_K.moved hW.alike h.1, fun w hw => kN_warm (kN_ok w hw) hW (h.2 w hw)⟩
theorem kK.calling {D : va_G} {T : Nat → ClassId} {a : Array Value} {U : State} {g : JFrame} {mk : MethodId} (h : kK D T U) : kK D T (U.calling g mk a) := ⟨va_K.moved (u := U) (U := U.calling g mk a) (Vm.Alike.refl U.vm) h.1, fun w hw => kN_same (s := U) (U := U.calling g mk a) (kN_ok w hw) rfl (h.2 w hw)⟩
def kPc (D : va_G) (T : Nat → ClassId) (av : List Value) (Φ : Heap → Prop) : Array Value → State → Prop := fun v U => v = av.toArray ∧ kK D T U ∧ Φ U.heap
theorem kPc.blind {D : va_G} {T : Nat → ClassId} {av : List Value} {Φ : Heap → Prop} : FrameBlind (kPc D T av Φ) := fun _ _ _ _ h => ⟨h.1, h.2.1.calling, h.2.2⟩
theorem kPc.v {D : va_G} {T : Nat → ClassId} {As : List Value} {Φ : Heap → Prop} {s : State} {H : Heap} {C : String} {b : Addr} (hK : kK D T s) (hr : ∃ cell : Cell, H[b]? = some cell ∧ cell.vm.isStatics = false ∧ s.vm.findClass C = some cell.cls) (h : Φ H) : PreV s H C b (kPc D T (.ref b :: As) Φ) As := ⟨kPc.blind, hr, fun U hU hW => ⟨rfl, hK.warm hW, by rw [hU]; exact h⟩⟩
theorem kPc.s {D : va_G} {T : Nat → ClassId} {As : List Value} {Φ : Heap → Prop} {s : State} {H : Heap} (hK : kK D T s) (h : Φ H) : PreS s H (kPc D T As Φ) As := ⟨kPc.blind, fun U hU hW => ⟨rfl, hK.warm hW, by rw [hU]; exact h⟩⟩
theorem kn_RX6_9 {D : va_G} {T : Nat → ClassId} {s : State} (h : kK D T s) : va_Nw (.methodLinkNest RX6 9 yX2_init "LakePlant") s := h.2 _ (List.mem_of_getElem? (i := 0) rfl)
theorem kb_RX6_9 {D : va_G} {T : Nat → ClassId} {s : State} {args : Array Value} (h : kK D T s) : (Cond.methodLinkNest RX6 9 yX2_init "LakePlant").before args s = true := va_Nw.use rfl (kn_RX6_9 h)
theorem kn_RX2_22 {D : va_G} {T : Nat → ClassId} {s : State} (h : kK D T s) : va_Nw (.methodLinkNest RX2 22 yX6_copyRow "LakePlant") s := h.2 _ (List.mem_of_getElem? (i := 1) rfl)
theorem kb_RX2_22 {D : va_G} {T : Nat → ClassId} {s : State} {args : Array Value} (h : kK D T s) : (Cond.methodLinkNest RX2 22 yX6_copyRow "LakePlant").before args s = true := va_Nw.use rfl (kn_RX2_22 h)
theorem kn_RX5_44 {D : va_G} {T : Nat → ClassId} {s : State} (h : kK D T s) : va_Nw (.fieldLinkNest RX5 44 "LakePlant$Lake" "version" "I" "LakePlant") s := h.2 _ (List.mem_of_getElem? (i := 2) rfl)
theorem kb_RX5_44 {D : va_G} {T : Nat → ClassId} {s : State} {args : Array Value} (h : kK D T s) : (Cond.fieldLinkNest RX5 44 "LakePlant$Lake" "version" "I" "LakePlant").before args s = true := va_Nw.use rfl (kn_RX5_44 h)
theorem kn_RX6_18 {D : va_G} {T : Nat → ClassId} {s : State} (h : kK D T s) : va_Nw (.methodLinkNest RX6 18 yX0_init "LakePlant") s := h.2 _ (List.mem_of_getElem? (i := 3) rfl)
theorem kb_RX6_18 {D : va_G} {T : Nat → ClassId} {s : State} {args : Array Value} (h : kK D T s) : (Cond.methodLinkNest RX6 18 yX0_init "LakePlant").before args s = true := va_Nw.use rfl (kn_RX6_18 h)
theorem kn_RX6_111 {D : va_G} {T : Nat → ClassId} {s : State} (h : kK D T s) : va_Nw (.fieldLinkNest RX6 111 "LakePlant$Course" "letDown" "[I" "LakePlant") s := h.2 _ (List.mem_of_getElem? (i := 4) rfl)
theorem kb_RX6_111 {D : va_G} {T : Nat → ClassId} {s : State} {args : Array Value} (h : kK D T s) : (Cond.fieldLinkNest RX6 111 "LakePlant$Course" "letDown" "[I" "LakePlant").before args s = true := va_Nw.use rfl (kn_RX6_111 h)
theorem kn_RX6_115 {D : va_G} {T : Nat → ClassId} {s : State} (h : kK D T s) : va_Nw (.fieldLinkNest RX6 115 "LakePlant$Course" "pumped" "[I" "LakePlant") s := h.2 _ (List.mem_of_getElem? (i := 5) rfl)
theorem kb_RX6_115 {D : va_G} {T : Nat → ClassId} {s : State} {args : Array Value} (h : kK D T s) : (Cond.fieldLinkNest RX6 115 "LakePlant$Course" "pumped" "[I" "LakePlant").before args s = true := va_Nw.use rfl (kn_RX6_115 h)
theorem kn_RX6_118 {D : va_G} {T : Nat → ClassId} {s : State} (h : kK D T s) : va_Nw (.fieldLinkNest RX6 118 "LakePlant$Course" "lost" "[I" "LakePlant") s := h.2 _ (List.mem_of_getElem? (i := 6) rfl)
theorem kb_RX6_118 {D : va_G} {T : Nat → ClassId} {s : State} {args : Array Value} (h : kK D T s) : (Cond.fieldLinkNest RX6 118 "LakePlant$Course" "lost" "[I" "LakePlant").before args s = true := va_Nw.use rfl (kn_RX6_118 h)
theorem kn_RX6_121 {D : va_G} {T : Nat → ClassId} {s : State} (h : kK D T s) : va_Nw (.fieldLinkNest RX6 121 "LakePlant$Course" "spilled" "[I" "LakePlant") s := h.2 _ (List.mem_of_getElem? (i := 7) rfl)
theorem kb_RX6_121 {D : va_G} {T : Nat → ClassId} {s : State} {args : Array Value} (h : kK D T s) : (Cond.fieldLinkNest RX6 121 "LakePlant$Course" "spilled" "[I" "LakePlant").before args s = true := va_Nw.use rfl (kn_RX6_121 h)
theorem kn_RX6_124 {D : va_G} {T : Nat → ClassId} {s : State} (h : kK D T s) : va_Nw (.fieldLinkNest RX6 124 "LakePlant$Course" "level" "[I" "LakePlant") s := h.2 _ (List.mem_of_getElem? (i := 8) rfl)
theorem kb_RX6_124 {D : va_G} {T : Nat → ClassId} {s : State} {args : Array Value} (h : kK D T s) : (Cond.fieldLinkNest RX6 124 "LakePlant$Course" "level" "[I" "LakePlant").before args s = true := va_Nw.use rfl (kn_RX6_124 h)
theorem kn_RX6_127 {D : va_G} {T : Nat → ClassId} {s : State} (h : kK D T s) : va_Nw (.fieldLinkNest RX6 127 "LakePlant$Course" "money" "[I" "LakePlant") s := h.2 _ (List.mem_of_getElem? (i := 9) rfl)
theorem kb_RX6_127 {D : va_G} {T : Nat → ClassId} {s : State} {args : Array Value} (h : kK D T s) : (Cond.fieldLinkNest RX6 127 "LakePlant$Course" "money" "[I" "LakePlant").before args s = true := va_Nw.use rfl (kn_RX6_127 h)
theorem kn_RX6_131 {D : va_G} {T : Nat → ClassId} {s : State} (h : kK D T s) : va_Nw (.fieldLinkNest RX6 131 "LakePlant$Course" "trouble" "[I" "LakePlant") s := h.2 _ (List.mem_of_getElem? (i := 10) rfl)
theorem kb_RX6_131 {D : va_G} {T : Nat → ClassId} {s : State} {args : Array Value} (h : kK D T s) : (Cond.fieldLinkNest RX6 131 "LakePlant$Course" "trouble" "[I" "LakePlant").before args s = true := va_Nw.use rfl (kn_RX6_131 h)
theorem kn_RX6_134 {D : va_G} {T : Nat → ClassId} {s : State} (h : kK D T s) : va_Nw (.fieldLinkNest RX6 134 "LakePlant$Course" "cause" "[I" "LakePlant") s := h.2 _ (List.mem_of_getElem? (i := 11) rfl)
theorem kb_RX6_134 {D : va_G} {T : Nat → ClassId} {s : State} {args : Array Value} (h : kK D T s) : (Cond.fieldLinkNest RX6 134 "LakePlant$Course" "cause" "[I" "LakePlant").before args s = true := va_Nw.use rfl (kn_RX6_134 h)
theorem kn_RX6_27 {D : va_G} {T : Nat → ClassId} {s : State} (h : kK D T s) : va_Nw (.methodLinkNest RX6 27 yX5_init "LakePlant") s := h.2 _ (List.mem_of_getElem? (i := 12) rfl)
theorem kb_RX6_27 {D : va_G} {T : Nat → ClassId} {s : State} {args : Array Value} (h : kK D T s) : (Cond.methodLinkNest RX6 27 yX5_init "LakePlant").before args s = true := va_Nw.use rfl (kn_RX6_27 h)
theorem kn_RX6_191 {D : va_G} {T : Nat → ClassId} {s : State} (h : kK D T s) : va_Nw (.fieldLinkNest RX6 191 "LakePlant$Search" "plan" "[I" "LakePlant") s := h.2 _ (List.mem_of_getElem? (i := 13) rfl)
theorem kb_RX6_191 {D : va_G} {T : Nat → ClassId} {s : State} {args : Array Value} (h : kK D T s) : (Cond.fieldLinkNest RX6 191 "LakePlant$Search" "plan" "[I" "LakePlant").before args s = true := va_Nw.use rfl (kn_RX6_191 h)
theorem kn_RX6_187 {D : va_G} {T : Nat → ClassId} {s : State} (h : kK D T s) : va_Nw (.fieldLinkNest RX6 187 "LakePlant$Search" "found" "Z" "LakePlant") s := h.2 _ (List.mem_of_getElem? (i := 14) rfl)
theorem kb_RX6_187 {D : va_G} {T : Nat → ClassId} {s : State} {args : Array Value} (h : kK D T s) : (Cond.fieldLinkNest RX6 187 "LakePlant$Search" "found" "Z" "LakePlant").before args s = true := va_Nw.use rfl (kn_RX6_187 h)
theorem kn_RX6_34 {D : va_G} {T : Nat → ClassId} {s : State} (h : kK D T s) : va_Nw (.methodLinkNest RX6 34 yX3_init "LakePlant") s := h.2 _ (List.mem_of_getElem? (i := 15) rfl)
theorem kb_RX6_34 {D : va_G} {T : Nat → ClassId} {s : State} {args : Array Value} (h : kK D T s) : (Cond.methodLinkNest RX6 34 yX3_init "LakePlant").before args s = true := va_Nw.use rfl (kn_RX6_34 h)
theorem kn_RX6_174 {D : va_G} {T : Nat → ClassId} {s : State} (h : kK D T s) : va_Nw (.fieldLinkNest RX6 174 "LakePlant$Pad" "length" "I" "LakePlant") s := h.2 _ (List.mem_of_getElem? (i := 16) rfl)
theorem kb_RX6_174 {D : va_G} {T : Nat → ClassId} {s : State} {args : Array Value} (h : kK D T s) : (Cond.fieldLinkNest RX6 174 "LakePlant$Pad" "length" "I" "LakePlant").before args s = true := va_Nw.use rfl (kn_RX6_174 h)
theorem kn_RX6_41 {D : va_G} {T : Nat → ClassId} {s : State} (h : kK D T s) : va_Nw (.methodLinkNest RX6 41 yX4_init "LakePlant") s := h.2 _ (List.mem_of_getElem? (i := 17) rfl)
theorem kb_RX6_41 {D : va_G} {T : Nat → ClassId} {s : State} {args : Array Value} (h : kK D T s) : (Cond.methodLinkNest RX6 41 yX4_init "LakePlant").before args s = true := va_Nw.use rfl (kn_RX6_41 h)
theorem kn_RX6_50 {D : va_G} {T : Nat → ClassId} {s : State} (h : kK D T s) : va_Nw (.methodLinkNest RX6 50 yX1_init "LakePlant") s := h.2 _ (List.mem_of_getElem? (i := 18) rfl)
theorem kb_RX6_50 {D : va_G} {T : Nat → ClassId} {s : State} {args : Array Value} (h : kK D T s) : (Cond.methodLinkNest RX6 50 yX1_init "LakePlant").before args s = true := va_Nw.use rfl (kn_RX6_50 h)
theorem kn_RX6_178 {D : va_G} {T : Nat → ClassId} {s : State} (h : kK D T s) : va_Nw (.fieldLinkNest RX6 178 "LakePlant$History" "length" "I" "LakePlant") s := h.2 _ (List.mem_of_getElem? (i := 19) rfl)
theorem kb_RX6_178 {D : va_G} {T : Nat → ClassId} {s : State} {args : Array Value} (h : kK D T s) : (Cond.fieldLinkNest RX6 178 "LakePlant$History" "length" "I" "LakePlant").before args s = true := va_Nw.use rfl (kn_RX6_178 h)
theorem kn_RX6_99 {D : va_G} {T : Nat → ClassId} {s : State} (h : kK D T s) : va_Nw (.methodLinkNest RX6 99 yX0_follow "LakePlant") s := h.2 _ (List.mem_of_getElem? (i := 20) rfl)
theorem kb_RX6_99 {D : va_G} {T : Nat → ClassId} {s : State} {args : Array Value} (h : kK D T s) : (Cond.methodLinkNest RX6 99 yX0_follow "LakePlant").before args s = true := va_Nw.use rfl (kn_RX6_99 h)
theorem kn_RX0_40 {D : va_G} {T : Nat → ClassId} {s : State} (h : kK D T s) : va_Nw (.methodLinkNest RX0 40 yX2_settingOf "LakePlant") s := h.2 _ (List.mem_of_getElem? (i := 21) rfl)
theorem kb_RX0_40 {D : va_G} {T : Nat → ClassId} {s : State} {args : Array Value} (h : kK D T s) : (Cond.methodLinkNest RX0 40 yX2_settingOf "LakePlant").before args s = true := va_Nw.use rfl (kn_RX0_40 h)
theorem kn_RX0_50 {D : va_G} {T : Nat → ClassId} {s : State} (h : kK D T s) : va_Nw (.methodLinkNest RX0 50 yX6_isHour "LakePlant") s := h.2 _ (List.mem_of_getElem? (i := 22) rfl)
theorem kb_RX0_50 {D : va_G} {T : Nat → ClassId} {s : State} {args : Array Value} (h : kK D T s) : (Cond.methodLinkNest RX0 50 yX6_isHour "LakePlant").before args s = true := va_Nw.use rfl (kn_RX0_50 h)
theorem kn_RX0_54 {D : va_G} {T : Nat → ClassId} {s : State} (h : kK D T s) : va_Nw (.methodLinkNest RX0 54 yX2_planOf "LakePlant") s := h.2 _ (List.mem_of_getElem? (i := 23) rfl)
theorem kb_RX0_54 {D : va_G} {T : Nat → ClassId} {s : State} {args : Array Value} (h : kK D T s) : (Cond.methodLinkNest RX0 54 yX2_planOf "LakePlant").before args s = true := va_Nw.use rfl (kn_RX0_54 h)
theorem kn_RX0_57 {D : va_G} {T : Nat → ClassId} {s : State} (h : kK D T s) : va_Nw (.methodLinkNest RX0 57 yX2_pumpedBy "LakePlant") s := h.2 _ (List.mem_of_getElem? (i := 24) rfl)
theorem kb_RX0_57 {D : va_G} {T : Nat → ClassId} {s : State} {args : Array Value} (h : kK D T s) : (Cond.methodLinkNest RX0 57 yX2_pumpedBy "LakePlant").before args s = true := va_Nw.use rfl (kn_RX0_57 h)
theorem kn_RX0_60 {D : va_G} {T : Nat → ClassId} {s : State} (h : kK D T s) : va_Nw (.methodLinkNest RX0 60 yX2_filledLevel "LakePlant") s := h.2 _ (List.mem_of_getElem? (i := 25) rfl)
theorem kb_RX0_60 {D : va_G} {T : Nat → ClassId} {s : State} {args : Array Value} (h : kK D T s) : (Cond.methodLinkNest RX0 60 yX2_filledLevel "LakePlant").before args s = true := va_Nw.use rfl (kn_RX0_60 h)
theorem kn_RX0_64 {D : va_G} {T : Nat → ClassId} {s : State} (h : kK D T s) : va_Nw (.methodLinkNest RX0 64 yX2_wantedBy "LakePlant") s := h.2 _ (List.mem_of_getElem? (i := 26) rfl)
theorem kb_RX0_64 {D : va_G} {T : Nat → ClassId} {s : State} {args : Array Value} (h : kK D T s) : (Cond.methodLinkNest RX0 64 yX2_wantedBy "LakePlant").before args s = true := va_Nw.use rfl (kn_RX0_64 h)
theorem kn_RX0_67 {D : va_G} {T : Nat → ClassId} {s : State} (h : kK D T s) : va_Nw (.methodLinkNest RX0 67 yX2_letDownOf "LakePlant") s := h.2 _ (List.mem_of_getElem? (i := 27) rfl)
theorem kb_RX0_67 {D : va_G} {T : Nat → ClassId} {s : State} {args : Array Value} (h : kK D T s) : (Cond.methodLinkNest RX0 67 yX2_letDownOf "LakePlant").before args s = true := va_Nw.use rfl (kn_RX0_67 h)
theorem kn_RX0_70 {D : va_G} {T : Nat → ClassId} {s : State} (h : kK D T s) : va_Nw (.methodLinkNest RX0 70 yX2_lossOf "LakePlant") s := h.2 _ (List.mem_of_getElem? (i := 28) rfl)
theorem kb_RX0_70 {D : va_G} {T : Nat → ClassId} {s : State} {args : Array Value} (h : kK D T s) : (Cond.methodLinkNest RX0 70 yX2_lossOf "LakePlant").before args s = true := va_Nw.use rfl (kn_RX0_70 h)
theorem kn_RX0_73 {D : va_G} {T : Nat → ClassId} {s : State} (h : kK D T s) : va_Nw (.methodLinkNest RX0 73 yX2_spilledOf "LakePlant") s := h.2 _ (List.mem_of_getElem? (i := 29) rfl)
theorem kb_RX0_73 {D : va_G} {T : Nat → ClassId} {s : State} {args : Array Value} (h : kK D T s) : (Cond.methodLinkNest RX0 73 yX2_spilledOf "LakePlant").before args s = true := va_Nw.use rfl (kn_RX0_73 h)
theorem kn_RX0_76 {D : va_G} {T : Nat → ClassId} {s : State} (h : kK D T s) : va_Nw (.methodLinkNest RX0 76 yX2_earnedBy "LakePlant") s := h.2 _ (List.mem_of_getElem? (i := 30) rfl)
theorem kb_RX0_76 {D : va_G} {T : Nat → ClassId} {s : State} {args : Array Value} (h : kK D T s) : (Cond.methodLinkNest RX0 76 yX2_earnedBy "LakePlant").before args s = true := va_Nw.use rfl (kn_RX0_76 h)
theorem kn_RX0_79 {D : va_G} {T : Nat → ClassId} {s : State} (h : kK D T s) : va_Nw (.methodLinkNest RX0 79 yX2_priceOf "LakePlant") s := h.2 _ (List.mem_of_getElem? (i := 31) rfl)
theorem kb_RX0_79 {D : va_G} {T : Nat → ClassId} {s : State} {args : Array Value} (h : kK D T s) : (Cond.methodLinkNest RX0 79 yX2_priceOf "LakePlant").before args s = true := va_Nw.use rfl (kn_RX0_79 h)
theorem kn_RX0_86 {D : va_G} {T : Nat → ClassId} {s : State} (h : kK D T s) : va_Nw (.methodLinkNest RX0 86 yX2_missedIn "LakePlant") s := h.2 _ (List.mem_of_getElem? (i := 32) rfl)
theorem kb_RX0_86 {D : va_G} {T : Nat → ClassId} {s : State} {args : Array Value} (h : kK D T s) : (Cond.methodLinkNest RX0 86 yX2_missedIn "LakePlant").before args s = true := va_Nw.use rfl (kn_RX0_86 h)
theorem kn_RX6_153 {D : va_G} {T : Nat → ClassId} {s : State} (h : kK D T s) : va_Nw (.methodLinkNest RX6 153 yX0_levelInTheEnd "LakePlant") s := h.2 _ (List.mem_of_getElem? (i := 33) rfl)
theorem kb_RX6_153 {D : va_G} {T : Nat → ClassId} {s : State} {args : Array Value} (h : kK D T s) : (Cond.methodLinkNest RX6 153 yX0_levelInTheEnd "LakePlant").before args s = true := va_Nw.use rfl (kn_RX6_153 h)
theorem kn_RX6_156 {D : va_G} {T : Nat → ClassId} {s : State} (h : kK D T s) : va_Nw (.methodLinkNest RX6 156 yX0_hoursWith "LakePlant") s := h.2 _ (List.mem_of_getElem? (i := 34) rfl)
theorem kb_RX6_156 {D : va_G} {T : Nat → ClassId} {s : State} {args : Array Value} (h : kK D T s) : (Cond.methodLinkNest RX6 156 yX0_hoursWith "LakePlant").before args s = true := va_Nw.use rfl (kn_RX6_156 h)
theorem kn_RX6_159 {D : va_G} {T : Nat → ClassId} {s : State} (h : kK D T s) : va_Nw (.methodLinkNest RX6 159 yX0_missedContracts "LakePlant") s := h.2 _ (List.mem_of_getElem? (i := 35) rfl)
theorem kb_RX6_159 {D : va_G} {T : Nat → ClassId} {s : State} {args : Array Value} (h : kK D T s) : (Cond.methodLinkNest RX6 159 yX0_missedContracts "LakePlant").before args s = true := va_Nw.use rfl (kn_RX6_159 h)
theorem kn_RX6_162 {D : va_G} {T : Nat → ClassId} {s : State} (h : kK D T s) : va_Nw (.methodLinkNest RX6 162 yX2_settingOf "LakePlant") s := h.2 _ (List.mem_of_getElem? (i := 36) rfl)
theorem kb_RX6_162 {D : va_G} {T : Nat → ClassId} {s : State} {args : Array Value} (h : kK D T s) : (Cond.methodLinkNest RX6 162 yX2_settingOf "LakePlant").before args s = true := va_Nw.use rfl (kn_RX6_162 h)
theorem kn_RX6_165 {D : va_G} {T : Nat → ClassId} {s : State} (h : kK D T s) : va_Nw (.methodLinkNest RX6 165 yX2_allInflows "LakePlant") s := h.2 _ (List.mem_of_getElem? (i := 37) rfl)
theorem kb_RX6_165 {D : va_G} {T : Nat → ClassId} {s : State} {args : Array Value} (h : kK D T s) : (Cond.methodLinkNest RX6 165 yX2_allInflows "LakePlant").before args s = true := va_Nw.use rfl (kn_RX6_165 h)
theorem kn_RX6_171 {D : va_G} {T : Nat → ClassId} {s : State} (h : kK D T s) : va_Nw (.methodLinkNest RX6 171 yX2_contracts "LakePlant") s := h.2 _ (List.mem_of_getElem? (i := 38) rfl)
theorem kb_RX6_171 {D : va_G} {T : Nat → ClassId} {s : State} {args : Array Value} (h : kK D T s) : (Cond.methodLinkNest RX6 171 yX2_contracts "LakePlant").before args s = true := va_Nw.use rfl (kn_RX6_171 h)
theorem kn_RX6_102 {D : va_G} {T : Nat → ClassId} {s : State} (h : kK D T s) : va_Nw (.methodLinkNest RX6 102 yX2_priceOf "LakePlant") s := h.2 _ (List.mem_of_getElem? (i := 39) rfl)
theorem kb_RX6_102 {D : va_G} {T : Nat → ClassId} {s : State} {args : Array Value} (h : kK D T s) : (Cond.methodLinkNest RX6 102 yX2_priceOf "LakePlant").before args s = true := va_Nw.use rfl (kn_RX6_102 h)
theorem kn_RX6_105 {D : va_G} {T : Nat → ClassId} {s : State} (h : kK D T s) : va_Nw (.methodLinkNest RX6 105 yX2_inflowOf "LakePlant") s := h.2 _ (List.mem_of_getElem? (i := 40) rfl)
theorem kb_RX6_105 {D : va_G} {T : Nat → ClassId} {s : State} {args : Array Value} (h : kK D T s) : (Cond.methodLinkNest RX6 105 yX2_inflowOf "LakePlant").before args s = true := va_Nw.use rfl (kn_RX6_105 h)
theorem kn_RX6_108 {D : va_G} {T : Nat → ClassId} {s : State} (h : kK D T s) : va_Nw (.methodLinkNest RX6 108 yX2_planOf "LakePlant") s := h.2 _ (List.mem_of_getElem? (i := 41) rfl)
theorem kb_RX6_108 {D : va_G} {T : Nat → ClassId} {s : State} {args : Array Value} (h : kK D T s) : (Cond.methodLinkNest RX6 108 yX2_planOf "LakePlant").before args s = true := va_Nw.use rfl (kn_RX6_108 h)
theorem kn_RX6_168 {D : va_G} {T : Nat → ClassId} {s : State} (h : kK D T s) : va_Nw (.methodLinkNest RX6 168 yX0_setOf "LakePlant") s := h.2 _ (List.mem_of_getElem? (i := 42) rfl)
theorem kb_RX6_168 {D : va_G} {T : Nat → ClassId} {s : State} {args : Array Value} (h : kK D T s) : (Cond.methodLinkNest RX6 168 yX0_setOf "LakePlant").before args s = true := va_Nw.use rfl (kn_RX6_168 h)
theorem kn_RX6_179 {D : va_G} {T : Nat → ClassId} {s : State} (h : kK D T s) : va_Nw (.methodLinkNest RX6 179 yX5_solve "LakePlant") s := h.2 _ (List.mem_of_getElem? (i := 43) rfl)
theorem kb_RX6_179 {D : va_G} {T : Nat → ClassId} {s : State} {args : Array Value} (h : kK D T s) : (Cond.methodLinkNest RX6 179 yX5_solve "LakePlant").before args s = true := va_Nw.use rfl (kn_RX6_179 h)
theorem kn_RX5_49 {D : va_G} {T : Nat → ClassId} {s : State} (h : kK D T s) : va_Nw (.methodLinkNest RX5 49 yX2_settingOf "LakePlant") s := h.2 _ (List.mem_of_getElem? (i := 44) rfl)
theorem kb_RX5_49 {D : va_G} {T : Nat → ClassId} {s : State} {args : Array Value} (h : kK D T s) : (Cond.methodLinkNest RX5 49 yX2_settingOf "LakePlant").before args s = true := va_Nw.use rfl (kn_RX5_49 h)
theorem kn_RX5_54 {D : va_G} {T : Nat → ClassId} {s : State} (h : kK D T s) : va_Nw (.methodLinkNest RX5 54 yX2_lossOf "LakePlant") s := h.2 _ (List.mem_of_getElem? (i := 45) rfl)
theorem kb_RX5_54 {D : va_G} {T : Nat → ClassId} {s : State} {args : Array Value} (h : kK D T s) : (Cond.methodLinkNest RX5 54 yX2_lossOf "LakePlant").before args s = true := va_Nw.use rfl (kn_RX5_54 h)
theorem kn_RX5_67 {D : va_G} {T : Nat → ClassId} {s : State} (h : kK D T s) : va_Nw (.methodLinkNest RX5 67 yX2_earnedBy "LakePlant") s := h.2 _ (List.mem_of_getElem? (i := 46) rfl)
theorem kb_RX5_67 {D : va_G} {T : Nat → ClassId} {s : State} {args : Array Value} (h : kK D T s) : (Cond.methodLinkNest RX5 67 yX2_earnedBy "LakePlant").before args s = true := va_Nw.use rfl (kn_RX5_67 h)
theorem kn_RX5_71 {D : va_G} {T : Nat → ClassId} {s : State} (h : kK D T s) : va_Nw (.methodLinkNest RX5 71 yX2_spilledOf "LakePlant") s := h.2 _ (List.mem_of_getElem? (i := 47) rfl)
theorem kb_RX5_71 {D : va_G} {T : Nat → ClassId} {s : State} {args : Array Value} (h : kK D T s) : (Cond.methodLinkNest RX5 71 yX2_spilledOf "LakePlant").before args s = true := va_Nw.use rfl (kn_RX5_71 h)
theorem kn_RX5_77 {D : va_G} {T : Nat → ClassId} {s : State} (h : kK D T s) : va_Nw (.methodLinkNest RX5 77 yX2_letDownOf "LakePlant") s := h.2 _ (List.mem_of_getElem? (i := 48) rfl)
theorem kb_RX5_77 {D : va_G} {T : Nat → ClassId} {s : State} {args : Array Value} (h : kK D T s) : (Cond.methodLinkNest RX5 77 yX2_letDownOf "LakePlant").before args s = true := va_Nw.use rfl (kn_RX5_77 h)
theorem kn_RX5_83 {D : va_G} {T : Nat → ClassId} {s : State} (h : kK D T s) : va_Nw (.methodLinkNest RX5 83 yX6_isHour "LakePlant") s := h.2 _ (List.mem_of_getElem? (i := 49) rfl)
theorem kb_RX5_83 {D : va_G} {T : Nat → ClassId} {s : State} {args : Array Value} (h : kK D T s) : (Cond.methodLinkNest RX5 83 yX6_isHour "LakePlant").before args s = true := va_Nw.use rfl (kn_RX5_83 h)
theorem kn_RX5_92 {D : va_G} {T : Nat → ClassId} {s : State} (h : kK D T s) : va_Nw (.methodLinkNest RX5 92 yX2_priceOf "LakePlant") s := h.2 _ (List.mem_of_getElem? (i := 50) rfl)
theorem kb_RX5_92 {D : va_G} {T : Nat → ClassId} {s : State} {args : Array Value} (h : kK D T s) : (Cond.methodLinkNest RX5 92 yX2_priceOf "LakePlant").before args s = true := va_Nw.use rfl (kn_RX5_92 h)
theorem kn_RX5_95 {D : va_G} {T : Nat → ClassId} {s : State} (h : kK D T s) : va_Nw (.methodLinkNest RX5 95 yX2_inflowOf "LakePlant") s := h.2 _ (List.mem_of_getElem? (i := 51) rfl)
theorem kb_RX5_95 {D : va_G} {T : Nat → ClassId} {s : State} {args : Array Value} (h : kK D T s) : (Cond.methodLinkNest RX5 95 yX2_inflowOf "LakePlant").before args s = true := va_Nw.use rfl (kn_RX5_95 h)
theorem kn_RX5_114 {D : va_G} {T : Nat → ClassId} {s : State} (h : kK D T s) : va_Nw (.methodLinkNest RX5 114 yX2_pumpedBy "LakePlant") s := h.2 _ (List.mem_of_getElem? (i := 52) rfl)
theorem kb_RX5_114 {D : va_G} {T : Nat → ClassId} {s : State} {args : Array Value} (h : kK D T s) : (Cond.methodLinkNest RX5 114 yX2_pumpedBy "LakePlant").before args s = true := va_Nw.use rfl (kn_RX5_114 h)
theorem kn_RX5_117 {D : va_G} {T : Nat → ClassId} {s : State} (h : kK D T s) : va_Nw (.methodLinkNest RX5 117 yX2_filledLevel "LakePlant") s := h.2 _ (List.mem_of_getElem? (i := 53) rfl)
theorem kb_RX5_117 {D : va_G} {T : Nat → ClassId} {s : State} {args : Array Value} (h : kK D T s) : (Cond.methodLinkNest RX5 117 yX2_filledLevel "LakePlant").before args s = true := va_Nw.use rfl (kn_RX5_117 h)
theorem kn_RX5_120 {D : va_G} {T : Nat → ClassId} {s : State} (h : kK D T s) : va_Nw (.methodLinkNest RX5 120 yX2_wantedBy "LakePlant") s := h.2 _ (List.mem_of_getElem? (i := 54) rfl)
theorem kb_RX5_120 {D : va_G} {T : Nat → ClassId} {s : State} {args : Array Value} (h : kK D T s) : (Cond.methodLinkNest RX5 120 yX2_wantedBy "LakePlant").before args s = true := va_Nw.use rfl (kn_RX5_120 h)
theorem kn_RX5_110 {D : va_G} {T : Nat → ClassId} {s : State} (h : kK D T s) : va_Nw (.methodLinkNest RX5 110 yX2_levelBehind "LakePlant") s := h.2 _ (List.mem_of_getElem? (i := 55) rfl)
theorem kb_RX5_110 {D : va_G} {T : Nat → ClassId} {s : State} {args : Array Value} (h : kK D T s) : (Cond.methodLinkNest RX5 110 yX2_levelBehind "LakePlant").before args s = true := va_Nw.use rfl (kn_RX5_110 h)
theorem kn_RX6_182 {D : va_G} {T : Nat → ClassId} {s : State} (h : kK D T s) : va_Nw (.methodLinkNest RX6 182 yX5_mostFrom "LakePlant") s := h.2 _ (List.mem_of_getElem? (i := 56) rfl)
theorem kb_RX6_182 {D : va_G} {T : Nat → ClassId} {s : State} {args : Array Value} (h : kK D T s) : (Cond.methodLinkNest RX6 182 yX5_mostFrom "LakePlant").before args s = true := va_Nw.use rfl (kn_RX6_182 h)
theorem kn_RX6_194 {D : va_G} {T : Nat → ClassId} {s : State} (h : kK D T s) : va_Nw (.methodLinkNest RX6 194 yX2_highestInTheEnd "LakePlant") s := h.2 _ (List.mem_of_getElem? (i := 57) rfl)
theorem kb_RX6_194 {D : va_G} {T : Nat → ClassId} {s : State} {args : Array Value} (h : kK D T s) : (Cond.methodLinkNest RX6 194 yX2_highestInTheEnd "LakePlant").before args s = true := va_Nw.use rfl (kn_RX6_194 h)
theorem kn_RX6_64 {D : va_G} {T : Nat → ClassId} {s : State} (h : kK D T s) : va_Nw (.methodLinkNest RX6 64 yX1_keepAside "LakePlant") s := h.2 _ (List.mem_of_getElem? (i := 58) rfl)
theorem kb_RX6_64 {D : va_G} {T : Nat → ClassId} {s : State} {args : Array Value} (h : kK D T s) : (Cond.methodLinkNest RX6 64 yX1_keepAside "LakePlant").before args s = true := va_Nw.use rfl (kn_RX6_64 h)
theorem kn_RX1_25 {D : va_G} {T : Nat → ClassId} {s : State} (h : kK D T s) : va_Nw (.methodLinkNest RX1 25 yX2_copyTo "LakePlant") s := h.2 _ (List.mem_of_getElem? (i := 59) rfl)
theorem kb_RX1_25 {D : va_G} {T : Nat → ClassId} {s : State} {args : Array Value} (h : kK D T s) : (Cond.methodLinkNest RX1 25 yX2_copyTo "LakePlant").before args s = true := va_Nw.use rfl (kn_RX1_25 h)
theorem kn_RX6_75 {D : va_G} {T : Nat → ClassId} {s : State} (h : kK D T s) : va_Nw (.methodLinkNest RX6 75 yX2_changePrice "LakePlant") s := h.2 _ (List.mem_of_getElem? (i := 60) rfl)
theorem kb_RX6_75 {D : va_G} {T : Nat → ClassId} {s : State} {args : Array Value} (h : kK D T s) : (Cond.methodLinkNest RX6 75 yX2_changePrice "LakePlant").before args s = true := va_Nw.use rfl (kn_RX6_75 h)
theorem kn_RX2_51 {D : va_G} {T : Nat → ClassId} {s : State} (h : kK D T s) : va_Nw (.methodLinkNest RX2 51 yX6_isHour "LakePlant") s := h.2 _ (List.mem_of_getElem? (i := 61) rfl)
theorem kb_RX2_51 {D : va_G} {T : Nat → ClassId} {s : State} {args : Array Value} (h : kK D T s) : (Cond.methodLinkNest RX2 51 yX6_isHour "LakePlant").before args s = true := va_Nw.use rfl (kn_RX2_51 h)
theorem kn_RX6_71 {D : va_G} {T : Nat → ClassId} {s : State} (h : kK D T s) : va_Nw (.methodLinkNest RX6 71 yX1_recordUnlessError "LakePlant") s := h.2 _ (List.mem_of_getElem? (i := 62) rfl)
theorem kb_RX6_71 {D : va_G} {T : Nat → ClassId} {s : State} {args : Array Value} (h : kK D T s) : (Cond.methodLinkNest RX6 71 yX1_recordUnlessError "LakePlant").before args s = true := va_Nw.use rfl (kn_RX6_71 h)
theorem kn_RX6_78 {D : va_G} {T : Nat → ClassId} {s : State} (h : kK D T s) : va_Nw (.methodLinkNest RX6 78 yX2_changeInflow "LakePlant") s := h.2 _ (List.mem_of_getElem? (i := 63) rfl)
theorem kb_RX6_78 {D : va_G} {T : Nat → ClassId} {s : State} {args : Array Value} (h : kK D T s) : (Cond.methodLinkNest RX6 78 yX2_changeInflow "LakePlant").before args s = true := va_Nw.use rfl (kn_RX6_78 h)
theorem kn_RX6_81 {D : va_G} {T : Nat → ClassId} {s : State} (h : kK D T s) : va_Nw (.methodLinkNest RX6 81 yX2_changePlan "LakePlant") s := h.2 _ (List.mem_of_getElem? (i := 64) rfl)
theorem kb_RX6_81 {D : va_G} {T : Nat → ClassId} {s : State} {args : Array Value} (h : kK D T s) : (Cond.methodLinkNest RX6 81 yX2_changePlan "LakePlant").before args s = true := va_Nw.use rfl (kn_RX6_81 h)
theorem kn_RX6_84 {D : va_G} {T : Nat → ClassId} {s : State} (h : kK D T s) : va_Nw (.methodLinkNest RX6 84 yX2_addContract "LakePlant") s := h.2 _ (List.mem_of_getElem? (i := 65) rfl)
theorem kb_RX6_84 {D : va_G} {T : Nat → ClassId} {s : State} {args : Array Value} (h : kK D T s) : (Cond.methodLinkNest RX6 84 yX2_addContract "LakePlant").before args s = true := va_Nw.use rfl (kn_RX6_84 h)
theorem kn_RX6_88 {D : va_G} {T : Nat → ClassId} {s : State} (h : kK D T s) : va_Nw (.methodLinkNest RX6 88 yX2_removeContract "LakePlant") s := h.2 _ (List.mem_of_getElem? (i := 66) rfl)
theorem kb_RX6_88 {D : va_G} {T : Nat → ClassId} {s : State} {args : Array Value} (h : kK D T s) : (Cond.methodLinkNest RX6 88 yX2_removeContract "LakePlant").before args s = true := va_Nw.use rfl (kn_RX6_88 h)
theorem kn_RX6_67 {D : va_G} {T : Nat → ClassId} {s : State} (h : kK D T s) : va_Nw (.methodLinkNest RX6 67 yX2_changeSetting "LakePlant") s := h.2 _ (List.mem_of_getElem? (i := 67) rfl)
theorem kb_RX6_67 {D : va_G} {T : Nat → ClassId} {s : State} {args : Array Value} (h : kK D T s) : (Cond.methodLinkNest RX6 67 yX2_changeSetting "LakePlant").before args s = true := va_Nw.use rfl (kn_RX6_67 h)
theorem kn_RX6_221 {D : va_G} {T : Nat → ClassId} {s : State} (h : kK D T s) : va_Nw (.methodLinkNest RX6 221 yX1_takeBack "LakePlant") s := h.2 _ (List.mem_of_getElem? (i := 68) rfl)
theorem kb_RX6_221 {D : va_G} {T : Nat → ClassId} {s : State} {args : Array Value} (h : kK D T s) : (Cond.methodLinkNest RX6 221 yX1_takeBack "LakePlant").before args s = true := va_Nw.use rfl (kn_RX6_221 h)
theorem kn_RX1_35 {D : va_G} {T : Nat → ClassId} {s : State} (h : kK D T s) : va_Nw (.methodLinkNest RX1 35 yX2_copyFrom "LakePlant") s := h.2 _ (List.mem_of_getElem? (i := 69) rfl)
theorem kb_RX1_35 {D : va_G} {T : Nat → ClassId} {s : State} {args : Array Value} (h : kK D T s) : (Cond.methodLinkNest RX1 35 yX2_copyFrom "LakePlant").before args s = true := va_Nw.use rfl (kn_RX1_35 h)
/-- places of ws are laid anew -/
def kput (ws : va_W) : List Nat → va_W → va_W
  | i :: is, q :: w1 => kput (ws.set i q) is w1
  | _, _ => ws
theorem kput_mem : ∀ (is : List Nat) (w1 ws : va_W) (k : Nat) (q : Nat × va_E), (kput ws is w1)[k]? = some q → q ∈ w1 ∨ (ws[k]? = some q ∧ (is.length = w1.length → k ∉ is))
  | [], w1, ws, k, q => fun h => Or.inr ⟨by cases w1 <;> exact h, fun _ => List.not_mem_nil⟩
  | i :: is, [], ws, k, q => fun h => Or.inr ⟨h, fun h => by simp at h⟩
  | i :: is, q0 :: w1, ws, k, q => fun h => by
    rcases kput_mem is w1 (ws.set i q0) k q h with h1 | ⟨h1, h2⟩
    · exact Or.inl (List.mem_cons_of_mem _ h1)
    · by_cases hk : i = k
      · subst hk
        by_cases hl : i < ws.length
        · rw [List.getElem?_set_self hl] at h1
          cases h1
          exact Or.inl List.mem_cons_self
        · rw [List.getElem?_eq_none (by simp; omega)] at h1
          cases h1
      · rw [List.getElem?_set_ne hk] at h1
        refine Or.inr ⟨h1, fun hlen hm => ?_⟩
        rcases List.mem_cons.mp hm with e | e
        · exact hk e.symm
        · exact h2 (by simpa using hlen) e
theorem kput_fst : ∀ (is : List Nat) (w1 ws : va_W), is.map (fun i => (ws[i]?).map Prod.fst) = w1.map (fun q => some q.1) → (kput ws is w1).map Prod.fst = ws.map Prod.fst
  | [], w1, ws => fun _ => by cases w1 <;> rfl
  | i :: is, [], ws => fun _ => rfl
  | i :: is, q0 :: w1, ws => fun h => by
    simp only [List.map_cons, List.cons.injEq] at h
    have e : (ws.set i q0).map Prod.fst = ws.map Prod.fst := by
      apply List.ext_getElem?
      intro k
      rw [List.getElem?_map, List.getElem?_map]
      by_cases hk : i = k
      · subst hk
        rw [h.1]
        by_cases hl : i < ws.length
        · rw [List.getElem?_set_self hl]; rfl
        · have := h.1
          rw [List.getElem?_eq_none (by omega)] at this
          cases this
      · rw [List.getElem?_set_ne hk]
    have e2 : ∀ j : Nat, ((ws.set i q0)[j]?).map Prod.fst = (ws[j]?).map Prod.fst := fun j => by
      rw [← List.getElem?_map, e, List.getElem?_map]
    exact (kput_fst is w1 (ws.set i q0) (by rw [← h.2]; exact List.map_congr_left (fun j _ => e2 j))).trans e
theorem kD_fst {A : Nat → Prop} {ws ws' : va_W} (h : va_D A ws) (e : ws'.map Prod.fst = ws.map Prod.fst) : va_D A ws' := by
  have key : ∀ (k : Nat) (q : Nat × va_E), ws'[k]? = some q → ∃ q' : Nat × va_E, ws[k]? = some q' ∧ q'.1 = q.1 := fun k q hq => by
    have h1 : (ws'.map Prod.fst)[k]? = some q.1 := by rw [List.getElem?_map, hq]; rfl
    rw [e, List.getElem?_map] at h1
    cases hw : ws[k]? with
    | none => rw [hw] at h1; cases h1
    | some q' => rw [hw] at h1; exact ⟨q', rfl, Option.some.inj h1⟩
  refine ⟨fun i j p q hi hj hpq => ?_, fun k q hk => ?_⟩
  · obtain ⟨p', h1, e1⟩ := key i p hi
    obtain ⟨q', h2, e2⟩ := key j q hj
    exact h.1 i j p' q' h1 h2 (by rw [e1, e2, hpq])
  · obtain ⟨q', h1, e1⟩ := key k q hk
    rw [← e1]
    exact h.2 k q' h1
theorem kcut {D : va_G} {cl : List vw_C} {ws wc : va_W} {H : Heap} (hP : va_P D cl ws H) (is : List Nat) (hC : is.map (fun i => ws[i]?) = wc.map some) : va_P D cl wc H := fun k q hq => by
  have h2 : (is.map (fun i => ws[i]?))[k]? = some (some q) := by rw [hC, List.getElem?_map, hq]; rfl
  rw [List.getElem?_map] at h2
  cases hi : is[k]? with
  | none => rw [hi] at h2; cases h2
  | some i => rw [hi] at h2; exact hP i q (Option.some.inj h2)
theorem kjoin {A0 : Nat → Prop} {D : va_G} {cl : List vw_C} {ws wc w1 : va_W} {H H1 : Heap} (hP : va_P D cl ws H) (hD : va_D A0 ws) (is : List Nat) (hC : is.map (fun i => ws[i]?) = wc.map some) (hA : w1.map Prod.fst = wc.map Prod.fst) (hk : ∀ q : Nat, q < H.size → ¬ va_A wc H.size q → H1[q]? = H[q]?) (hP1 : va_P D cl w1 H1) : va_P D cl (kput ws is w1) H1 ∧ va_D A0 (kput ws is w1) := by
  have hlen : is.length = w1.length := by
    have h1 := congrArg List.length hC
    have h2 := congrArg List.length hA
    simp only [List.length_map] at h1 h2
    omega
  refine ⟨fun k q hq => ?_, kD_fst hD (kput_fst is w1 ws ?_)⟩
  · rcases kput_mem is w1 ws k q hq with h1 | ⟨h1, h2⟩
    · obtain ⟨j, hj⟩ := List.getElem?_of_mem h1
      exact hP1 j q hj
    · have h3 := hP k q h1
      refine h3.kept (hk q.1 h3.lt (fun ha => ?_))
      rcases ha with ⟨j, e, hj⟩ | ha
      · have h4 : (is.map (fun i => ws[i]?))[j]? = some (some (q.1, e)) := by rw [hC, List.getElem?_map, hj]; rfl
        rw [List.getElem?_map] at h4
        cases hi : is[j]? with
        | none => rw [hi] at h4; cases h4
        | some i =>
          rw [hi] at h4
          have h5 := hD.1 k i q (q.1, e) h1 (Option.some.inj h4) rfl
          exact h2 hlen (h5 ▸ List.mem_of_getElem? hi)
      · have := h3.lt
        omega
  · have e1 : is.map (fun i => (ws[i]?).map Prod.fst) = (is.map (fun i => ws[i]?)).map (fun o => o.map Prod.fst) := by simp
    rw [e1, hC]
    have e2 : (w1.map (fun q => some q.1)) = (w1.map Prod.fst).map some := by simp
    rw [e2, hA]
    simp
/-- what a method finds that writes in the cells ws -/
def kW (D : va_G) (sz : Nat) (ws : va_W) : Heap → Prop := fun H => H.size = sz ∧ va_P D vwCl ws H ∧ va_D (fun _ => True) ws
theorem kW.cut {D : va_G} {ws wc : va_W} {H : Heap} {A : Nat → Prop} (hP : va_P D vwCl ws H) (hD : va_D A ws) (is : List Nat) (hC : is.map (fun i => ws[i]?) = wc.map some) (hn : va_nd is = true) : kW D H.size wc H := ⟨rfl, kcut hP is hC, (hD.sub is hn hC).weaken (fun _ _ _ _ => trivial)⟩
section KC
variable {p : Program} {l : Launch} {e : Env} {R : Room} {s : State} {m : MethodId} {args : Array Value} {below : List Frame} {meth : Method} {c : Code} {H : Heap} {locs : List Loc} {cells slots : Nat} {Q : State → Prop}
variable {cc : ByteArray} {pc : Nat} {ls : Array Slot} {rest st0 : List Value} {a : Array Value} {D : va_G} {cl : List vw_C} {A : Nat → Prop} {H0 : Heap}
/-- a call that only reads -/
theorem kc_i {post : Int32 → Prop} (hr : va_Run p l e R s m args below meth c H locs cells slots 0 0 (F0 m pc ls st0) rest (vp_Si post a) (fun _ => False)) (kk : ∀ r : Int32, post r → W p l e R s m args below meth c H locs cells slots Q (F0 m (pc + 3) ls (.int r :: rest))) : W p l e R s m args below meth c H locs cells slots Q (F0 m pc ls st0) := by
  intro T hT X
  obtain ⟨v, st₀, t, T', L, h0, X', hL, e1, e2, ⟨r, hv, hp, hh⟩, st⟩ := hr T hT X
  cases hv
  obtain ⟨t2, a1, b1⟩ := kk r hp T' (by rw [e1, hh, h0]) (Stand.forget X' (fun q h => (hL q h).elim))
  exact ⟨t2, st t2 a1, b1⟩
/-- a call that writes in the cells wc, and makes nothing -/
theorem kc_wi {S : Type} {post : Int32 → S → Prop} {wsA : S → va_W} {ws wc : va_W} (hr : va_Run p l e R s m args below meth c H locs cells slots 0 0 (F0 m pc ls st0) rest (va_Qi post (fun u t => va_P D cl (wsA u) t.heap) (va_A wc H.size) a) (va_A wc H.size)) (hP : va_P D cl ws H) (hD : va_D A ws) (hS : va_S A H0 H locs) (hA : ∀ q, H0.size ≤ q → A q) (is : List Nat) (hC : is.map (fun i => ws[i]?) = wc.map some) (hf : ∀ u : S, (wsA u).map Prod.fst = wc.map Prod.fst)
    (kk : ∀ (r : Int32) (u : S) (H1 : Heap) (locs1 : List Loc), post r u → va_P D cl (kput ws is (wsA u)) H1 → va_D A (kput ws is (wsA u)) → va_S A H0 H1 locs1 → W p l e R s m args below meth c H1 locs1 cells slots Q (F0 m (pc + 3) ls (.int r :: rest))) : W p l e R s m args below meth c H locs cells slots Q (F0 m pc ls st0) := by
  have hF := va_free (wc := wc) hD hS hA is hC
  refine va_calli hr hS (fun q _ h => hF q h) hF (fun r u t H1 locs1 ht hvm hw hB hz1 hk1 hS1 => ?_)
  obtain ⟨g1, g2⟩ := kjoin (w1 := wsA u) hP hD is hC (hf u) hk1 (ht ▸ hB)
  exact kk r u H1 locs1 hw g1 g2 hS1
theorem kc_wv {S : Type} {post : S → Prop} {wsA : S → va_W} {ws wc : va_W} (hr : va_Run p l e R s m args below meth c H locs cells slots 0 0 (F0 m pc ls st0) rest (va_Qv post (fun u t => va_P D cl (wsA u) t.heap) (va_A wc H.size) a) (va_A wc H.size)) (hP : va_P D cl ws H) (hD : va_D A ws) (hS : va_S A H0 H locs) (hA : ∀ q, H0.size ≤ q → A q) (is : List Nat) (hC : is.map (fun i => ws[i]?) = wc.map some) (hf : ∀ u : S, (wsA u).map Prod.fst = wc.map Prod.fst)
    (kk : ∀ (u : S) (H1 : Heap) (locs1 : List Loc), post u → va_P D cl (kput ws is (wsA u)) H1 → va_D A (kput ws is (wsA u)) → va_S A H0 H1 locs1 → W p l e R s m args below meth c H1 locs1 cells slots Q (F0 m (pc + 3) ls rest)) : W p l e R s m args below meth c H locs cells slots Q (F0 m pc ls st0) := by
  have hF := va_free (wc := wc) hD hS hA is hC
  refine va_callv hr hS (fun q _ h => hF q h) hF (fun u t H1 locs1 ht hvm hw hB hz1 hk1 hS1 => ?_)
  obtain ⟨g1, g2⟩ := kjoin (w1 := wsA u) hP hD is hC (hf u) hk1 (ht ▸ hB)
  exact kk u H1 locs1 hw g1 g2 hS1
theorem k_top {x y : Int32} (h : x = y) (k : W p l e R s m args below meth c H locs cells slots Q (F0 m pc ls (.int y :: rest))) : W p l e R s m args below meth c H locs cells slots Q (F0 m pc ls (.int x :: rest)) := h ▸ k
theorem k_join {P : Int32 → Prop} {g : JFrame} {pcj : Nat} (K : (∀ v, P v → W p l e R s m args below meth c H locs cells slots Q (F0 m pcj ls (.int v :: rest))) → W p l e R s m args below meth c H locs cells slots Q g) (J : ∀ v, P v → W p l e R s m args below meth c H locs cells slots Q (F0 m pcj ls (.int v :: rest))) : W p l e R s m args below meth c H locs cells slots Q g := K J
variable {T : Nat → ClassId}
theorem k_iald (hx : p.tables.exec = Jvm.exec) (hb : c.code = cc) (hK : kK D T s) {ws : va_W} (hP : va_P D vwCl ws H) (q0 : Nat) {a n : Nat} {f : Nat → Int32} (ha : ws[q0]? = some (a, .inl (T 0, n, .inl f))) (j : Nat) {i : Int32} (hi : i = nI j) (hj : j < n) (hn : n ≤ 1000000) (hdg : decode cc pc = .ok (.iaload, 1)) (kk : W p l e R s m args below meth c H locs cells slots Q (F0 m (pc + 1) ls (.int (f j) :: rest))) : W p l e R s m args below meth c H locs cells slots Q (F0 m pc ls (.int i :: .ref a :: rest)) := by
  subst hi
  refine va_iald hx hb hK.1 hP q0 0 ha rfl (vp_in_nI hj (by omega)) hdg ?_
  rw [nI_clamp (by omega)]
  exact kk
theorem k_cald (hx : p.tables.exec = Jvm.exec) (hb : c.code = cc) (hK : kK D T s) {ws : va_W} (hP : va_P D vwCl ws H) (q0 : Nat) {a n : Nat} {f : Nat → Int32} (ha : ws[q0]? = some (a, .inl (T 3, n, .inl f))) (j : Nat) {i : Int32} (hi : i = nI j) (hj : j < n) (hn : n ≤ 1000000) (hdg : decode cc pc = .ok (.caload, 1)) (kk : W p l e R s m args below meth c H locs cells slots Q (F0 m (pc + 1) ls (.int (f j) :: rest))) : W p l e R s m args below meth c H locs cells slots Q (F0 m pc ls (.int i :: .ref a :: rest)) := by
  subst hi
  refine va_cald hx hb hK.1 hP q0 3 ha rfl (vp_in_nI hj (by omega)) hdg ?_
  rw [nI_clamp (by omega)]
  exact kk
theorem k_zald (hx : p.tables.exec = Jvm.exec) (hb : c.code = cc) (hK : kK D T s) {ws : va_W} (hP : va_P D vwCl ws H) (q0 : Nat) {a n : Nat} {f : Nat → Int32} (ha : ws[q0]? = some (a, .inl (T 2, n, .inl f))) (j : Nat) {i : Int32} (hi : i = nI j) (hj : j < n) (hn : n ≤ 1000000) (hdg : decode cc pc = .ok (.baload, 1)) (kk : W p l e R s m args below meth c H locs cells slots Q (F0 m (pc + 1) ls (.int (f j) :: rest))) : W p l e R s m args below meth c H locs cells slots Q (F0 m pc ls (.int i :: .ref a :: rest)) := by
  subst hi
  refine va_zald hx hb hK.1 hP q0 2 ha rfl (vp_in_nI hj (by omega)) hdg ?_
  rw [nI_clamp (by omega)]
  exact kk
theorem k_aald (hx : p.tables.exec = Jvm.exec) (hb : c.code = cc) (hK : kK D T s) {ws : va_W} (hP : va_P D vwCl ws H) (q0 : Nat) {a n : Nat} {f : Nat → Option Nat} (ha : ws[q0]? = some (a, .inl (T 1, n, .inr (.inr (.inr (.inr f)))))) (j : Nat) {i : Int32} (hi : i = nI j) (hj : j < n) (hn : n ≤ 1000000) {y : Nat} (hy : f j = some y) (hdg : decode cc pc = .ok (.aaload, 1)) (kk : W p l e R s m args below meth c H locs cells slots Q (F0 m (pc + 1) ls (.ref y :: rest))) : W p l e R s m args below meth c H locs cells slots Q (F0 m pc ls (.int i :: .ref a :: rest)) := by
  subst hi
  have hin := vp_in_nI hj (show n < 2 ^ 31 by omega)
  exact W.aald (v := .ref y) (ty := .array .int) hx hb (hP q0 _ ha) ((hK.1.2 1 _ rfl).1 n (fun j => va_rf (f j))) rfl (fun q => by cases q) (by show ¬ (_ ∨ (arrV _ _ _).slots.size ≤ _); rw [arrV_size]; exact hin) (by show (arrV _ _ _).slots[_]? = _; rw [nI_clamp (by omega), arrV_read _ _ hj, hy]; rfl) rfl rfl hdg kk
theorem k_iast (hx : p.tables.exec = Jvm.exec) (hb : c.code = cc) (hK : kK D T s) {ws : va_W} (hP : va_P D vwCl ws H) (hD : va_D A ws) (hS : va_S A H0 H locs) (q0 : Nat) {a n : Nat} {f : Nat → Int32} (ha : ws[q0]? = some (a, .inl (T 0, n, .inl f))) (j : Nat) {i x : Int32} (hi : i = nI j) (hj : j < n) (hn : n ≤ 1000000) (hdg : decode cc pc = .ok (.iastore, 1)) (kk : ∀ (H1 : Heap) (locs1 : List Loc), va_P D vwCl (ws.set q0 (a, .inl (T 0, n, .inl (upd f j x)))) H1 → va_D A (ws.set q0 (a, .inl (T 0, n, .inl (upd f j x)))) → va_S A H0 H1 locs1 → W p l e R s m args below meth c H1 locs1 cells slots Q (F0 m (pc + 1) ls rest)) : W p l e R s m args below meth c H locs cells slots Q (F0 m pc ls (.int x :: .int i :: .ref a :: rest)) := by
  subst hi
  refine va_iast hx hb hK.1 hP hD hS q0 0 ha rfl (vp_in_nI hj (by omega)) hdg ?_
  rw [nI_clamp (by omega)]
  exact kk
theorem k_zast (hx : p.tables.exec = Jvm.exec) (hb : c.code = cc) (hK : kK D T s) {ws : va_W} (hP : va_P D vwCl ws H) (hD : va_D A ws) (hS : va_S A H0 H locs) (q0 : Nat) {a n : Nat} {f : Nat → Int32} (ha : ws[q0]? = some (a, .inl (T 2, n, .inl f))) (j : Nat) {i x : Int32} (hi : i = nI j) (hj : j < n) (hn : n ≤ 1000000) (hz : vp_nar .boolean x = x) (hdg : decode cc pc = .ok (.bastore, 1)) (kk : ∀ (H1 : Heap) (locs1 : List Loc), va_P D vwCl (ws.set q0 (a, .inl (T 2, n, .inl (upd f j x)))) H1 → va_D A (ws.set q0 (a, .inl (T 2, n, .inl (upd f j x)))) → va_S A H0 H1 locs1 → W p l e R s m args below meth c H1 locs1 cells slots Q (F0 m (pc + 1) ls rest)) : W p l e R s m args below meth c H locs cells slots Q (F0 m pc ls (.int x :: .int i :: .ref a :: rest)) := by
  subst hi
  refine va_zast hx hb hK.1 hP hD hS q0 2 ha rfl (vp_in_nI hj (by omega)) hdg ?_
  rw [nI_clamp (by omega), hz]
  exact kk
theorem k_cast (hx : p.tables.exec = Jvm.exec) (hb : c.code = cc) (hK : kK D T s) {ws : va_W} (hP : va_P D vwCl ws H) (hD : va_D A ws) (hS : va_S A H0 H locs) (q0 : Nat) {a n : Nat} {f : Nat → Int32} (ha : ws[q0]? = some (a, .inl (T 3, n, .inl f))) (j : Nat) {i x : Int32} (hi : i = nI j) (hj : j < n) (hn : n ≤ 1000000) (hz : vp_nar .char x = x) (hdg : decode cc pc = .ok (.castore, 1)) (kk : ∀ (H1 : Heap) (locs1 : List Loc), va_P D vwCl (ws.set q0 (a, .inl (T 3, n, .inl (upd f j x)))) H1 → va_D A (ws.set q0 (a, .inl (T 3, n, .inl (upd f j x)))) → va_S A H0 H1 locs1 → W p l e R s m args below meth c H1 locs1 cells slots Q (F0 m (pc + 1) ls rest)) : W p l e R s m args below meth c H locs cells slots Q (F0 m pc ls (.int x :: .int i :: .ref a :: rest)) := by
  subst hi
  refine va_cast hx hb hK.1 hP hD hS q0 3 ha rfl (vp_in_nI hj (by omega)) hdg ?_
  rw [nI_clamp (by omega), hz]
  exact kk
end KC
