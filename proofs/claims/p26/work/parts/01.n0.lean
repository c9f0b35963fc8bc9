theorem goodIn_r {big : List Cond} (ws : List Cond) (ps : List Nat) (hp : ws = ps.filterMap (fun i => big[i]?)) (h : ws.all goodWord = true) : GoodIn big ws := by
  intro w hw
  have h1 := List.all_eq_true.mp h w hw
  rw [hp] at hw
  obtain ⟨i, -, hi⟩ := List.mem_filterMap.mp hw
  have hm : w ∈ big := by first | exact List.mem_of_getElem? hi | exact List.getElem?_mem hi
  exact ⟨hm, good_of_word h1⟩
theorem goodIn_app {big a b : List Cond} (ha : GoodIn big a) (hb : GoodIn big b) : GoodIn big (a ++ b) := fun w h => (List.mem_append.mp h).elim (ha w) (hb w)
theorem goodIn_ca {big a b : List Cond} {c : Cond} (ha : GoodIn big (c :: a)) (hb : GoodIn big b) : GoodIn big (c :: (a ++ b)) := fun w h => (List.mem_cons.mp h).elim (fun e => ha w (List.mem_cons.mpr (Or.inl e))) (fun h => (List.mem_append.mp h).elim (fun h => ha w (List.mem_cons.mpr (Or.inr h))) (hb w))
theorem goodIn_sub {big ws : List Cond} (hm : ∀ w ∈ ws, w ∈ big) (h : ws.all goodWord = true) : GoodIn big ws := fun w hw => ⟨hm w hw, good_of_word (List.all_eq_true.mp h w hw)⟩
def RX0 : String := "LakePlant$Course"
def TX0 : u_T := fun k => match k with
  | 0 => ("LakePlant$Course", "lake", "LLakePlant$Lake;", true)
  | 1 => ("LakePlant$Course", "letDown", "[I", true)
  | 2 => ("LakePlant$Course", "pumped", "[I", true)
  | 3 => ("LakePlant$Course", "lost", "[I", true)
  | 4 => ("LakePlant$Course", "spilled", "[I", true)
  | 5 => ("LakePlant$Course", "level", "[I", true)
  | 6 => ("LakePlant$Course", "money", "[I", true)
  | 7 => ("LakePlant$Course", "trouble", "[I", true)
  | _ => ("LakePlant$Course", "cause", "[I", true)
def tyX0 : Nat → FieldType := fun k => match k with
  | 0 => .object "LakePlant$Lake"
  | 1 => .array .int
  | 2 => .array .int
  | 3 => .array .int
  | 4 => .array .int
  | 5 => .array .int
  | 6 => .array .int
  | 7 => .array .int
  | _ => .array .int
abbrev wsX00 : List Cond := u_ws RX0 TX0 9
theorem nmX0 : ∀ a, a < 9 → ∀ b, b < 9 → a ≠ b → (TX0 a).2.1 ≠ (TX0 b).2.1 := by decide +kernel
theorem tyX0_ok : ∀ k, k < 9 → parseFieldDescriptor (TX0 k).2.2.1 = some (tyX0 k) := by decide +kernel
abbrev cX0_init : ByteArray := prog_2_method_1_code
def yX0_init : MethodName := ⟨RX0, "<init>", "(LLakePlant$Lake;)V"⟩
abbrev cX0_follow : ByteArray := prog_2_method_2_code
def yX0_follow : MethodName := ⟨RX0, "follow", "()V"⟩
abbrev cX0_followHour : ByteArray := prog_2_method_3_code
def yX0_followHour : MethodName := ⟨RX0, "followHour", "(II)I"⟩
abbrev cX0_troubleOf : ByteArray := prog_2_method_4_code
def yX0_troubleOf : MethodName := ⟨RX0, "troubleOf", "(IIII)I"⟩
abbrev cX0_levelInTheEnd : ByteArray := prog_2_method_5_code
def yX0_levelInTheEnd : MethodName := ⟨RX0, "levelInTheEnd", "()I"⟩
abbrev cX0_hoursWith : ByteArray := prog_2_method_6_code
def yX0_hoursWith : MethodName := ⟨RX0, "hoursWith", "(I)I"⟩
abbrev cX0_setOf : ByteArray := prog_2_method_7_code
def yX0_setOf : MethodName := ⟨RX0, "setOf", "(I)I"⟩
abbrev cX0_missedContracts : ByteArray := prog_2_method_8_code
def yX0_missedContracts : MethodName := ⟨RX0, "missedContracts", "()I"⟩
def RX1 : String := "LakePlant$History"
def TX1 : u_T := fun k => match k with
  | 0 => ("LakePlant$History", "states", "[[I", true)
  | 1 => ("LakePlant$History", "aside", "I", false)
  | _ => ("LakePlant$History", "length", "I", false)
def tyX1 : Nat → FieldType := fun k => match k with
  | 0 => .array (.array .int)
  | 1 => .int
  | _ => .int
abbrev wsX10 : List Cond := u_ws RX1 TX1 3
theorem nmX1 : ∀ a, a < 3 → ∀ b, b < 3 → a ≠ b → (TX1 a).2.1 ≠ (TX1 b).2.1 := by decide +kernel
theorem tyX1_ok : ∀ k, k < 3 → parseFieldDescriptor (TX1 k).2.2.1 = some (tyX1 k) := by decide +kernel
abbrev cX1_init : ByteArray := prog_3_method_1_code
def yX1_init : MethodName := ⟨RX1, "<init>", "()V"⟩
abbrev cX1_keepAside : ByteArray := prog_3_method_2_code
def yX1_keepAside : MethodName := ⟨RX1, "keepAside", "(LLakePlant$Lake;)V"⟩
abbrev cX1_recordUnlessError : ByteArray := prog_3_method_3_code
def yX1_recordUnlessError : MethodName := ⟨RX1, "recordUnlessError", "(I)I"⟩
abbrev cX1_takeBack : ByteArray := prog_3_method_4_code
def yX1_takeBack : MethodName := ⟨RX1, "takeBack", "(LLakePlant$Lake;)I"⟩
def RX2 : String := "LakePlant$Lake"
def TX2 : u_T := fun k => match k with
  | 0 => ("LakePlant$Lake", "cells", "[I", true)
  | _ => ("LakePlant$Lake", "version", "I", false)
def tyX2 : Nat → FieldType := fun k => match k with
  | 0 => .array .int
  | _ => .int
abbrev wsX20 : List Cond := u_ws RX2 TX2 2
theorem nmX2 : ∀ a, a < 2 → ∀ b, b < 2 → a ≠ b → (TX2 a).2.1 ≠ (TX2 b).2.1 := by decide +kernel
theorem tyX2_ok : ∀ k, k < 2 → parseFieldDescriptor (TX2 k).2.2.1 = some (tyX2 k) := by decide +kernel
abbrev cX2_init : ByteArray := prog_4_method_1_code
def yX2_init : MethodName := ⟨RX2, "<init>", "()V"⟩
abbrev cX2_copyTo : ByteArray := prog_4_method_2_code
def yX2_copyTo : MethodName := ⟨RX2, "copyTo", "([I)V"⟩
abbrev cX2_copyFrom : ByteArray := prog_4_method_3_code
def yX2_copyFrom : MethodName := ⟨RX2, "copyFrom", "([I)V"⟩
abbrev cX2_settingOf : ByteArray := prog_4_method_4_code
def yX2_settingOf : MethodName := ⟨RX2, "settingOf", "(I)I"⟩
abbrev cX2_priceOf : ByteArray := prog_4_method_5_code
def yX2_priceOf : MethodName := ⟨RX2, "priceOf", "(I)I"⟩
abbrev cX2_inflowOf : ByteArray := prog_4_method_6_code
def yX2_inflowOf : MethodName := ⟨RX2, "inflowOf", "(I)I"⟩
abbrev cX2_planOf : ByteArray := prog_4_method_7_code
def yX2_planOf : MethodName := ⟨RX2, "planOf", "(I)I"⟩
abbrev cX2_contracts : ByteArray := prog_4_method_8_code
def yX2_contracts : MethodName := ⟨RX2, "contracts", "()I"⟩
abbrev cX2_isContract : ByteArray := prog_4_method_9_code
def yX2_isContract : MethodName := ⟨RX2, "isContract", "(I)Z"⟩
abbrev cX2_contractPart : ByteArray := prog_4_method_10_code
def yX2_contractPart : MethodName := ⟨RX2, "contractPart", "(II)I"⟩
abbrev cX2_allInflows : ByteArray := prog_4_method_11_code
def yX2_allInflows : MethodName := ⟨RX2, "allInflows", "()I"⟩
abbrev cX2_changeSetting : ByteArray := prog_4_method_12_code
def yX2_changeSetting : MethodName := ⟨RX2, "changeSetting", "(II)I"⟩
abbrev cX2_fitsTheRest : ByteArray := prog_4_method_13_code
def yX2_fitsTheRest : MethodName := ⟨RX2, "fitsTheRest", "(II)Z"⟩
abbrev cX2_plansAreFrom : ByteArray := prog_4_method_14_code
def yX2_plansAreFrom : MethodName := ⟨RX2, "plansAreFrom", "(II)Z"⟩
abbrev cX2_changePrice : ByteArray := prog_4_method_15_code
def yX2_changePrice : MethodName := ⟨RX2, "changePrice", "(II)I"⟩
abbrev cX2_changeInflow : ByteArray := prog_4_method_16_code
def yX2_changeInflow : MethodName := ⟨RX2, "changeInflow", "(II)I"⟩
abbrev cX2_changePlan : ByteArray := prog_4_method_17_code
def yX2_changePlan : MethodName := ⟨RX2, "changePlan", "(II)I"⟩
abbrev cX2_replaced : ByteArray := prog_4_method_18_code
def yX2_replaced : MethodName := ⟨RX2, "replaced", "(II)I"⟩
abbrev cX2_addContract : ByteArray := prog_4_method_19_code
def yX2_addContract : MethodName := ⟨RX2, "addContract", "(IIII)I"⟩
abbrev cX2_removeContract : ByteArray := prog_4_method_20_code
def yX2_removeContract : MethodName := ⟨RX2, "removeContract", "(I)I"⟩
abbrev cX2_lossOf : ByteArray := prog_4_method_21_code
def yX2_lossOf : MethodName := ⟨RX2, "lossOf", "(I)I"⟩
abbrev cX2_filledLevel : ByteArray := prog_4_method_22_code
def yX2_filledLevel : MethodName := ⟨RX2, "filledLevel", "(III)I"⟩
abbrev cX2_wantedBy : ByteArray := prog_4_method_23_code
def yX2_wantedBy : MethodName := ⟨RX2, "wantedBy", "(I)I"⟩
abbrev cX2_letDownOf : ByteArray := prog_4_method_24_code
def yX2_letDownOf : MethodName := ⟨RX2, "letDownOf", "(II)I"⟩
abbrev cX2_spilledOf : ByteArray := prog_4_method_25_code
def yX2_spilledOf : MethodName := ⟨RX2, "spilledOf", "(I)I"⟩
abbrev cX2_levelBehind : ByteArray := prog_4_method_26_code
def yX2_levelBehind : MethodName := ⟨RX2, "levelBehind", "(III)I"⟩
abbrev cX2_earnedBy : ByteArray := prog_4_method_27_code
def yX2_earnedBy : MethodName := ⟨RX2, "earnedBy", "(II)I"⟩
abbrev cX2_missedIn : ByteArray := prog_4_method_28_code
def yX2_missedIn : MethodName := ⟨RX2, "missedIn", "(II)I"⟩
abbrev cX2_highestInTheEnd : ByteArray := prog_4_method_29_code
def yX2_highestInTheEnd : MethodName := ⟨RX2, "highestInTheEnd", "()I"⟩
abbrev cX2_pumpedBy : ByteArray := prog_4_method_30_code
def yX2_pumpedBy : MethodName := ⟨RX2, "pumpedBy", "(I)I"⟩
def RX3 : String := "LakePlant$Pad"
def TX3 : u_T := fun k => match k with
  | 0 => ("LakePlant$Pad", "signs", "[C", true)
  | _ => ("LakePlant$Pad", "length", "I", false)
def tyX3 : Nat → FieldType := fun k => match k with
  | 0 => .array .char
  | _ => .int
abbrev wsX30 : List Cond := u_ws RX3 TX3 2
theorem nmX3 : ∀ a, a < 2 → ∀ b, b < 2 → a ≠ b → (TX3 a).2.1 ≠ (TX3 b).2.1 := by decide +kernel
theorem tyX3_ok : ∀ k, k < 2 → parseFieldDescriptor (TX3 k).2.2.1 = some (tyX3 k) := by decide +kernel
abbrev cX3_init : ByteArray := prog_5_method_1_code
def yX3_init : MethodName := ⟨RX3, "<init>", "()V"⟩
def RX4 : String := "LakePlant$Reader"
def TX4 : u_T := fun k => match k with
  | 0 => ("LakePlant$Reader", "pad", "LLakePlant$Pad;", true)
  | 1 => ("LakePlant$Reader", "at", "I", false)
  | 2 => ("LakePlant$Reader", "number", "I", false)
  | 3 => ("LakePlant$Reader", "kind", "C", false)
  | 4 => ("LakePlant$Reader", "first", "I", false)
  | 5 => ("LakePlant$Reader", "last", "I", false)
  | 6 => ("LakePlant$Reader", "value", "I", false)
  | 7 => ("LakePlant$Reader", "units", "I", false)
  | 8 => ("LakePlant$Reader", "bonus", "I", false)
  | _ => ("LakePlant$Reader", "fine", "I", false)
def tyX4 : Nat → FieldType := fun k => match k with
  | 0 => .object "LakePlant$Pad"
  | 1 => .int
  | 2 => .int
  | 3 => .char
  | 4 => .int
  | 5 => .int
  | 6 => .int
  | 7 => .int
  | 8 => .int
  | _ => .int
abbrev wsX40 : List Cond := u_ws RX4 TX4 10
theorem nmX4 : ∀ a, a < 10 → ∀ b, b < 10 → a ≠ b → (TX4 a).2.1 ≠ (TX4 b).2.1 := by decide +kernel
theorem tyX4_ok : ∀ k, k < 10 → parseFieldDescriptor (TX4 k).2.2.1 = some (tyX4 k) := by decide +kernel
abbrev cX4_init : ByteArray := prog_6_method_1_code
def yX4_init : MethodName := ⟨RX4, "<init>", "(LLakePlant$Pad;)V"⟩
def RX5 : String := "LakePlant$Search"
def TX5 : u_T := fun k => match k with
  | 0 => ("LakePlant$Search", "lake", "LLakePlant$Lake;", true)
  | 1 => ("LakePlant$Search", "most", "[[I", true)
  | 2 => ("LakePlant$Search", "gained", "[I", true)
  | 3 => ("LakePlant$Search", "plan", "[I", true)
  | 4 => ("LakePlant$Search", "found", "Z", false)
  | 5 => ("LakePlant$Search", "solvedVersion", "I", false)
  | 6 => ("LakePlant$Search", "earned", "[I", true)
  | 7 => ("LakePlant$Search", "ahead", "[I", true)
  | _ => ("LakePlant$Search", "idle", "[I", true)
def tyX5 : Nat → FieldType := fun k => match k with
  | 0 => .object "LakePlant$Lake"
  | 1 => .array (.array .int)
  | 2 => .array .int
  | 3 => .array .int
  | 4 => .boolean
  | 5 => .int
  | 6 => .array .int
  | 7 => .array .int
  | _ => .array .int
abbrev wsX50 : List Cond := u_ws RX5 TX5 9
theorem nmX5 : ∀ a, a < 9 → ∀ b, b < 9 → a ≠ b → (TX5 a).2.1 ≠ (TX5 b).2.1 := by decide +kernel
theorem tyX5_ok : ∀ k, k < 9 → parseFieldDescriptor (TX5 k).2.2.1 = some (tyX5 k) := by decide +kernel
abbrev cX5_init : ByteArray := prog_7_method_1_code
def yX5_init : MethodName := ⟨RX5, "<init>", "(LLakePlant$Lake;)V"⟩
abbrev cX5_solve : ByteArray := prog_7_method_2_code
def yX5_solve : MethodName := ⟨RX5, "solve", "()V"⟩
abbrev cX5_mostFrom : ByteArray := prog_7_method_3_code
def yX5_mostFrom : MethodName := ⟨RX5, "mostFrom", "(II)I"⟩
abbrev cX5_lookAt : ByteArray := prog_7_method_4_code
def yX5_lookAt : MethodName := ⟨RX5, "lookAt", "(I)V"⟩
abbrev cX5_mostWith : ByteArray := prog_7_method_5_code
def yX5_mostWith : MethodName := ⟨RX5, "mostWith", "(II)I"⟩
abbrev cX5_solveHour : ByteArray := prog_7_method_6_code
def yX5_solveHour : MethodName := ⟨RX5, "solveHour", "(I)V"⟩
abbrev cX5_mostByPumping : ByteArray := prog_7_method_7_code
def yX5_mostByPumping : MethodName := ⟨RX5, "mostByPumping", "(II)I"⟩
abbrev cX5_mostByLettingDown : ByteArray := prog_7_method_8_code
def yX5_mostByLettingDown : MethodName := ⟨RX5, "mostByLettingDown", "(I)I"⟩
abbrev cX5_choosePlan : ByteArray := prog_7_method_9_code
def yX5_choosePlan : MethodName := ⟨RX5, "choosePlan", "()V"⟩
abbrev cX5_leastWithTheMost : ByteArray := prog_7_method_10_code
def yX5_leastWithTheMost : MethodName := ⟨RX5, "leastWithTheMost", "(II)I"⟩
def RX6 : String := "LakePlant"
def TX6 : u_T := fun k => match k with
  | 0 => ("LakePlant", "lake", "LLakePlant$Lake;", true)
  | 1 => ("LakePlant", "course", "LLakePlant$Course;", true)
  | 2 => ("LakePlant", "search", "LLakePlant$Search;", true)
  | 3 => ("LakePlant", "pad", "LLakePlant$Pad;", true)
  | 4 => ("LakePlant", "reader", "LLakePlant$Reader;", true)
  | 5 => ("LakePlant", "history", "LLakePlant$History;", true)
  | 6 => ("LakePlant", "slots", "[[I", true)
  | _ => ("LakePlant", "filledSlots", "[Z", true)
def tyX6 : Nat → FieldType := fun k => match k with
  | 0 => .object "LakePlant$Lake"
  | 1 => .object "LakePlant$Course"
  | 2 => .object "LakePlant$Search"
  | 3 => .object "LakePlant$Pad"
  | 4 => .object "LakePlant$Reader"
  | 5 => .object "LakePlant$History"
  | 6 => .array (.array .int)
  | _ => .array .boolean
abbrev wsX60 : List Cond := u_ws RX6 TX6 8
theorem nmX6 : ∀ a, a < 8 → ∀ b, b < 8 → a ≠ b → (TX6 a).2.1 ≠ (TX6 b).2.1 := by decide +kernel
theorem tyX6_ok : ∀ k, k < 8 → parseFieldDescriptor (TX6 k).2.2.1 = some (tyX6 k) := by decide +kernel
abbrev cX6_init : ByteArray := prog_1_method_1_code
def yX6_init : MethodName := ⟨RX6, "<init>", "()V"⟩
abbrev cX6_set : ByteArray := prog_1_method_2_code
def yX6_set : MethodName := ⟨RX6, "set", "(II)I"⟩
abbrev cX6_price : ByteArray := prog_1_method_3_code
def yX6_price : MethodName := ⟨RX6, "price", "(II)I"⟩
abbrev cX6_inflow : ByteArray := prog_1_method_4_code
def yX6_inflow : MethodName := ⟨RX6, "inflow", "(II)I"⟩
abbrev cX6_plan : ByteArray := prog_1_method_5_code
def yX6_plan : MethodName := ⟨RX6, "plan", "(II)I"⟩
abbrev cX6_contract : ByteArray := prog_1_method_6_code
def yX6_contract : MethodName := ⟨RX6, "contract", "(IIII)I"⟩
abbrev cX6_drop : ByteArray := prog_1_method_7_code
def yX6_drop : MethodName := ⟨RX6, "drop", "(I)I"⟩
abbrev cX6_adopt : ByteArray := prog_1_method_8_code
def yX6_adopt : MethodName := ⟨RX6, "adopt", "()I"⟩
abbrev cX6_hour : ByteArray := prog_1_method_9_code
def yX6_hour : MethodName := ⟨RX6, "hour", "(II)I"⟩
abbrev cX6_day : ByteArray := prog_1_method_11_code
def yX6_day : MethodName := ⟨RX6, "day", "(I)I"⟩
abbrev cX6_troubled : ByteArray := prog_1_method_12_code
def yX6_troubled : MethodName := ⟨RX6, "troubled", "(I)I"⟩
abbrev cX6_count : ByteArray := prog_1_method_13_code
def yX6_count : MethodName := ⟨RX6, "count", "(I)I"⟩
abbrev cX6_best : ByteArray := prog_1_method_14_code
def yX6_best : MethodName := ⟨RX6, "best", "()I"⟩
abbrev cX6_bestPlan : ByteArray := prog_1_method_15_code
def yX6_bestPlan : MethodName := ⟨RX6, "bestPlan", "(I)I"⟩
abbrev cX6_worth : ByteArray := prog_1_method_16_code
def yX6_worth : MethodName := ⟨RX6, "worth", "(I)I"⟩
abbrev cX6_highest : ByteArray := prog_1_method_17_code
def yX6_highest : MethodName := ⟨RX6, "highest", "()I"⟩
abbrev cX6_undo : ByteArray := prog_1_method_22_code
def yX6_undo : MethodName := ⟨RX6, "undo", "()I"⟩
abbrev cX6_adoptBest : ByteArray := prog_1_method_25_code
def yX6_adoptBest : MethodName := ⟨RX6, "adoptBest", "()I"⟩
abbrev cX6_moneyOfDay : ByteArray := prog_1_method_28_code
def yX6_moneyOfDay : MethodName := ⟨RX6, "moneyOfDay", "()I"⟩
abbrev cX6_isHour : ByteArray := prog_1_method_29_code
def yX6_isHour : MethodName := ⟨RX6, "isHour", "(I)Z"⟩
abbrev cX6_sumOf : ByteArray := prog_1_method_30_code
def yX6_sumOf : MethodName := ⟨RX6, "sumOf", "([I)I"⟩
abbrev cX6_copyRow : ByteArray := prog_1_method_31_code
def yX6_copyRow : MethodName := ⟨RX6, "copyRow", "([I[I)V"⟩
def RX7 : String := "LakePlantModel"
def TX7 : u_T := fun k => match k with
  | _ => ("", "", "", false)
def tyX7 : Nat → FieldType := fun k => match k with
  | _ => .int
abbrev wsX70 : List Cond := u_ws RX7 TX7 0
theorem nmX7 : ∀ a, a < 0 → ∀ b, b < 0 → a ≠ b → (TX7 a).2.1 ≠ (TX7 b).2.1 := by decide +kernel
theorem tyX7_ok : ∀ k, k < 0 → parseFieldDescriptor (TX7 k).2.2.1 = some (tyX7 k) := by decide +kernel
def RJ6 : String := "java/lang/Integer"
def TJ6 : u_T := fun k => match k with
  | _ => ("", "", "", false)
def tyJ6 : Nat → FieldType := fun k => match k with
  | _ => .int
abbrev wsJ60 : List Cond := u_ws RJ6 TJ6 0
theorem nmJ6 : ∀ a, a < 0 → ∀ b, b < 0 → a ≠ b → (TJ6 a).2.1 ≠ (TJ6 b).2.1 := by decide +kernel
theorem tyJ6_ok : ∀ k, k < 0 → parseFieldDescriptor (TJ6 k).2.2.1 = some (tyJ6 k) := by decide +kernel
abbrev cJ6_bitCount_0f7a4 : ByteArray := prog_10_method_49_code
def yJ6_bitCount_0f7a4 : MethodName := ⟨RJ6, "bitCount", "(I)I"⟩
def RJ9 : String := "java/lang/Math"
def TJ9 : u_T := fun k => match k with
  | _ => ("", "", "", false)
def tyJ9 : Nat → FieldType := fun k => match k with
  | _ => .int
abbrev wsJ90 : List Cond := u_ws RJ9 TJ9 0
theorem nmJ9 : ∀ a, a < 0 → ∀ b, b < 0 → a ≠ b → (TJ9 a).2.1 ≠ (TJ9 b).2.1 := by decide +kernel
theorem tyJ9_ok : ∀ k, k < 0 → parseFieldDescriptor (TJ9 k).2.2.1 = some (tyJ9 k) := by decide +kernel
abbrev cJ9_max_7cf53 : ByteArray := prog_11_method_65_code
def yJ9_max_7cf53 : MethodName := ⟨RJ9, "max", "(II)I"⟩
abbrev cJ9_min_7cf53 : ByteArray := prog_11_method_69_code
def yJ9_min_7cf53 : MethodName := ⟨RJ9, "min", "(II)I"⟩
def RJ10 : String := "java/lang/System"
def TJ10 : u_T := fun k => match k with
  | _ => ("", "", "", false)
def tyJ10 : Nat → FieldType := fun k => match k with
  | _ => .int
abbrev wsJ100 : List Cond := u_ws RJ10 TJ10 0
theorem nmJ10 : ∀ a, a < 0 → ∀ b, b < 0 → a ≠ b → (TJ10 a).2.1 ≠ (TJ10 b).2.1 := by decide +kernel
theorem tyJ10_ok : ∀ k, k < 0 → parseFieldDescriptor (TJ10 k).2.2.1 = some (tyJ10 k) := by decide +kernel
def RL : String := "LakePlantLaw"
abbrev cL_low : ByteArray := method_2_code
def yL_low : MethodName := ⟨RL, "low", "(II)I"⟩
abbrev cL_cell : ByteArray := method_3_code
def yL_cell : MethodName := ⟨RL, "cell", "([II)I"⟩
abbrev cL_water : ByteArray := method_4_code
def yL_water : MethodName := ⟨RL, "water", "(LLakePlant;)Z"⟩
abbrev cL_best : ByteArray := method_5_code
def yL_best : MethodName := ⟨RL, "best", "(LLakePlant;)Z"⟩
abbrev cL_act : ByteArray := method_6_code
def yL_act : MethodName := ⟨RL, "act", "(LLakePlant;[II)I"⟩
abbrev cL_law : ByteArray := code
def yL_law : MethodName := ⟨RL, "law", "([I)Z"⟩
def wsX0_init : List Cond := .code yX0_init cX0_init 2 none :: ([.methodLink RX0 3 objectInit, .instanceMethod objectInit, .code objectInit ⟨#[0xb1]⟩ 1 none, .arrayClass .int, .fieldLink RX0 9 "LakePlant$Course" "letDown" "[I", .fieldLink RX0 15 "LakePlant$Course" "pumped" "[I", .fieldLink RX0 18 "LakePlant$Course" "lost" "[I", .fieldLink RX0 21 "LakePlant$Course" "spilled" "[I", .fieldLink RX0 24 "LakePlant$Course" "level" "[I", .fieldLink RX0 27 "LakePlant$Course" "money" "[I", .fieldLink RX0 30 "LakePlant$Course" "trouble" "[I", .fieldLink RX0 33 "LakePlant$Course" "cause" "[I", .fieldLink RX0 36 "LakePlant$Course" "lake" "LLakePlant$Lake;"] ++ wsX00)
def wsX2_settingOf : List Cond := .code yX2_settingOf cX2_settingOf 2 (some .int) :: ([.fieldLink RX2 11 "LakePlant$Lake" "cells" "[I"] ++ wsX20)
def wsX6_isHour : List Cond := .code yX6_isHour cX6_isHour 1 (some .boolean) :: ([])
def wsX2_planOf : List Cond := .code yX2_planOf cX2_planOf 2 (some .int) :: ([.fieldLink RX2 11 "LakePlant$Lake" "cells" "[I"] ++ wsX20)
def wsX2_pumpedBy : List Cond := .code yX2_pumpedBy cX2_pumpedBy 1 (some .int) :: ([.methodLink RX2 61 Lib.Math.max.name, .static Lib.Math.max.name, .initialized "java/lang/Math", .code Lib.Math.max.name Lib.Math.max.code 2 (some .int)])
def wsX2_lossOf : List Cond := .code yX2_lossOf cX2_lossOf 2 (some .int) :: ([.fieldLink RX2 11 "LakePlant$Lake" "cells" "[I"] ++ wsX20)
def wsX2_inflowOf : List Cond := .code yX2_inflowOf cX2_inflowOf 2 (some .int) :: ([.fieldLink RX2 11 "LakePlant$Lake" "cells" "[I"] ++ wsX20)
def wsX2_filledLevel : List Cond := .code yX2_filledLevel cX2_filledLevel 4 (some .int) :: ([.methodLink RX2 58 yX2_lossOf, .instanceMethod yX2_lossOf, .selects RX2 yX2_lossOf yX2_lossOf, .initialized RX2, .code yX2_lossOf cX2_lossOf 2 (some .int), .fieldLink RX2 11 "LakePlant$Lake" "cells" "[I", .methodLink RX2 30 yX2_inflowOf, .instanceMethod yX2_inflowOf, .selects RX2 yX2_inflowOf yX2_inflowOf, .code yX2_inflowOf cX2_inflowOf 2 (some .int)] ++ wsX20)
def wsX2_wantedBy : List Cond := .code yX2_wantedBy cX2_wantedBy 2 (some .int) :: ([.fieldLink RX2 11 "LakePlant$Lake" "cells" "[I", .methodLink RX2 61 Lib.Math.max.name, .static Lib.Math.max.name, .initialized "java/lang/Math", .code Lib.Math.max.name Lib.Math.max.code 2 (some .int)] ++ wsX20)
def wsX2_letDownOf : List Cond := .code yX2_letDownOf cX2_letDownOf 3 (some .int) :: ([.fieldLink RX2 11 "LakePlant$Lake" "cells" "[I", .methodLink RX2 66 Lib.Math.min.name, .static Lib.Math.min.name, .initialized "java/lang/Math", .code Lib.Math.min.name Lib.Math.min.code 2 (some .int), .methodLink RX2 61 Lib.Math.max.name, .static Lib.Math.max.name, .code Lib.Math.max.name Lib.Math.max.code 2 (some .int)] ++ wsX20)
def wsX2_spilledOf : List Cond := .code yX2_spilledOf cX2_spilledOf 2 (some .int) :: ([.fieldLink RX2 11 "LakePlant$Lake" "cells" "[I", .methodLink RX2 61 Lib.Math.max.name, .static Lib.Math.max.name, .initialized "java/lang/Math", .code Lib.Math.max.name Lib.Math.max.code 2 (some .int)] ++ wsX20)
def wsX2_priceOf : List Cond := .code yX2_priceOf cX2_priceOf 2 (some .int) :: ([.fieldLink RX2 11 "LakePlant$Lake" "cells" "[I"] ++ wsX20)
def wsX2_contracts : List Cond := .code yX2_contracts cX2_contracts 1 (some .int) :: ([.fieldLink RX2 11 "LakePlant$Lake" "cells" "[I"] ++ wsX20)
def wsX2_contractPart : List Cond := .code yX2_contractPart cX2_contractPart 4 (some .int) :: ([.fieldLink RX2 11 "LakePlant$Lake" "cells" "[I"] ++ wsX20)
def wsX2_earnedBy : List Cond := .code yX2_earnedBy cX2_earnedBy 6 (some .int) :: ([.fieldLink RX2 11 "LakePlant$Lake" "cells" "[I", .methodLink RX2 85 yX2_priceOf, .instanceMethod yX2_priceOf, .selects RX2 yX2_priceOf yX2_priceOf, .initialized RX2, .code yX2_priceOf cX2_priceOf 2 (some .int), .methodLink RX2 26 yX2_contracts, .instanceMethod yX2_contracts, .selects RX2 yX2_contracts yX2_contracts, .code yX2_contracts cX2_contracts 1 (some .int), .methodLink RX2 88 yX2_contractPart, .instanceMethod yX2_contractPart, .selects RX2 yX2_contractPart yX2_contractPart, .code yX2_contractPart cX2_contractPart 4 (some .int)] ++ wsX20)
def wsX2_missedIn : List Cond := .code yX2_missedIn cX2_missedIn 5 (some .int) :: ([.methodLink RX2 26 yX2_contracts, .instanceMethod yX2_contracts, .selects RX2 yX2_contracts yX2_contracts, .initialized RX2, .code yX2_contracts cX2_contracts 1 (some .int), .fieldLink RX2 11 "LakePlant$Lake" "cells" "[I", .methodLink RX2 88 yX2_contractPart, .instanceMethod yX2_contractPart, .selects RX2 yX2_contractPart yX2_contractPart, .code yX2_contractPart cX2_contractPart 4 (some .int)] ++ wsX20)
def wsX0_troubleOf : List Cond := .code yX0_troubleOf cX0_troubleOf 5 (some .int) :: ([.fieldLink RX0 36 "LakePlant$Course" "lake" "LLakePlant$Lake;", .instanceMethod yX2_settingOf, .initialized RX2, .selects RX2 yX2_settingOf yX2_settingOf, .code yX2_settingOf cX2_settingOf 2 (some .int), .fieldLink RX2 11 "LakePlant$Lake" "cells" "[I", .instanceMethod yX2_missedIn, .selects RX2 yX2_missedIn yX2_missedIn, .code yX2_missedIn cX2_missedIn 5 (some .int), .methodLink RX2 26 yX2_contracts, .instanceMethod yX2_contracts, .selects RX2 yX2_contracts yX2_contracts, .code yX2_contracts cX2_contracts 1 (some .int), .methodLink RX2 88 yX2_contractPart, .instanceMethod yX2_contractPart, .selects RX2 yX2_contractPart yX2_contractPart, .code yX2_contractPart cX2_contractPart 4 (some .int)] ++ wsX00 ++ wsX20)
def wsX0_followHour_r1 : List Cond := [Cond.fieldLink RX0 36 "LakePlant$Course" "lake" "LLakePlant$Lake;", Cond.fieldLink RX0 15 "LakePlant$Course" "pumped" "[I", Cond.fieldLink RX0 18 "LakePlant$Course" "lost" "[I", Cond.fieldLink RX0 9 "LakePlant$Course" "letDown" "[I", Cond.fieldLink RX0 21 "LakePlant$Course" "spilled" "[I", Cond.fieldLink RX0 24 "LakePlant$Course" "level" "[I", Cond.fieldLink RX0 27 "LakePlant$Course" "money" "[I", Cond.fieldLink RX0 30 "LakePlant$Course" "trouble" "[I", Cond.static yX6_isHour, Cond.initialized RX6, Cond.code yX6_isHour cX6_isHour 1 (some .boolean), Cond.instanceMethod yX2_planOf, Cond.initialized RX2, Cond.selects RX2 yX2_planOf yX2_planOf, Cond.code yX2_planOf cX2_planOf 2 (some .int), Cond.fieldLink RX2 11 "LakePlant$Lake" "cells" "[I", Cond.static yX2_pumpedBy, Cond.code yX2_pumpedBy cX2_pumpedBy 1 (some .int), Cond.methodLink RX2 61 Lib.Math.max.name, Cond.static Lib.Math.max.name, Cond.initialized "java/lang/Math", Cond.code Lib.Math.max.name Lib.Math.max.code 2 (some .int), Cond.instanceMethod yX2_filledLevel, Cond.selects RX2 yX2_filledLevel yX2_filledLevel]
def wsX0_followHour_r2 : List Cond := [Cond.code yX2_filledLevel cX2_filledLevel 4 (some .int), Cond.methodLink RX2 58 yX2_lossOf, Cond.instanceMethod yX2_lossOf, Cond.selects RX2 yX2_lossOf yX2_lossOf, Cond.code yX2_lossOf cX2_lossOf 2 (some .int), Cond.methodLink RX2 30 yX2_inflowOf, Cond.instanceMethod yX2_inflowOf, Cond.selects RX2 yX2_inflowOf yX2_inflowOf, Cond.code yX2_inflowOf cX2_inflowOf 2 (some .int), Cond.instanceMethod yX2_wantedBy, Cond.selects RX2 yX2_wantedBy yX2_wantedBy, Cond.code yX2_wantedBy cX2_wantedBy 2 (some .int), Cond.instanceMethod yX2_letDownOf, Cond.selects RX2 yX2_letDownOf yX2_letDownOf, Cond.code yX2_letDownOf cX2_letDownOf 3 (some .int), Cond.methodLink RX2 66 Lib.Math.min.name, Cond.static Lib.Math.min.name, Cond.code Lib.Math.min.name Lib.Math.min.code 2 (some .int), Cond.instanceMethod yX2_spilledOf, Cond.selects RX2 yX2_spilledOf yX2_spilledOf, Cond.code yX2_spilledOf cX2_spilledOf 2 (some .int), Cond.instanceMethod yX2_earnedBy, Cond.selects RX2 yX2_earnedBy yX2_earnedBy, Cond.code yX2_earnedBy cX2_earnedBy 6 (some .int)]
def wsX0_followHour_r3 : List Cond := [Cond.methodLink RX2 85 yX2_priceOf, Cond.instanceMethod yX2_priceOf, Cond.selects RX2 yX2_priceOf yX2_priceOf, Cond.code yX2_priceOf cX2_priceOf 2 (some .int), Cond.methodLink RX2 26 yX2_contracts, Cond.instanceMethod yX2_contracts, Cond.selects RX2 yX2_contracts yX2_contracts, Cond.code yX2_contracts cX2_contracts 1 (some .int), Cond.methodLink RX2 88 yX2_contractPart, Cond.instanceMethod yX2_contractPart, Cond.selects RX2 yX2_contractPart yX2_contractPart, Cond.code yX2_contractPart cX2_contractPart 4 (some .int), Cond.methodLink RX0 82 yX0_troubleOf, Cond.instanceMethod yX0_troubleOf, Cond.selects RX0 yX0_troubleOf yX0_troubleOf, Cond.initialized RX0, Cond.code yX0_troubleOf cX0_troubleOf 5 (some .int), Cond.instanceMethod yX2_settingOf, Cond.selects RX2 yX2_settingOf yX2_settingOf, Cond.code yX2_settingOf cX2_settingOf 2 (some .int), Cond.instanceMethod yX2_missedIn, Cond.selects RX2 yX2_missedIn yX2_missedIn, Cond.code yX2_missedIn cX2_missedIn 5 (some .int)]
def wsX0_followHour : List Cond := .code yX0_followHour cX0_followHour 8 (some .int) :: ((wsX0_followHour_r1 ++ (wsX0_followHour_r2 ++ wsX0_followHour_r3)) ++ wsX00 ++ wsX20)
def wsX0_follow_r1 : List Cond := [Cond.fieldLink RX0 36 "LakePlant$Course" "lake" "LLakePlant$Lake;", Cond.fieldLink RX0 30 "LakePlant$Course" "trouble" "[I", Cond.fieldLink RX0 33 "LakePlant$Course" "cause" "[I", Cond.fieldLink RX0 21 "LakePlant$Course" "spilled" "[I", Cond.instanceMethod yX2_settingOf, Cond.initialized RX2, Cond.selects RX2 yX2_settingOf yX2_settingOf, Cond.code yX2_settingOf cX2_settingOf 2 (some .int), Cond.fieldLink RX2 11 "LakePlant$Lake" "cells" "[I", Cond.methodLink RX0 46 yX0_followHour, Cond.instanceMethod yX0_followHour, Cond.selects RX0 yX0_followHour yX0_followHour, Cond.initialized RX0, Cond.code yX0_followHour cX0_followHour 8 (some .int), Cond.fieldLink RX0 15 "LakePlant$Course" "pumped" "[I", Cond.fieldLink RX0 18 "LakePlant$Course" "lost" "[I", Cond.fieldLink RX0 9 "LakePlant$Course" "letDown" "[I", Cond.fieldLink RX0 24 "LakePlant$Course" "level" "[I", Cond.fieldLink RX0 27 "LakePlant$Course" "money" "[I", Cond.static yX6_isHour, Cond.initialized RX6, Cond.code yX6_isHour cX6_isHour 1 (some .boolean), Cond.instanceMethod yX2_planOf, Cond.selects RX2 yX2_planOf yX2_planOf]
def wsX0_follow_r2 : List Cond := [Cond.code yX2_planOf cX2_planOf 2 (some .int), Cond.static yX2_pumpedBy, Cond.code yX2_pumpedBy cX2_pumpedBy 1 (some .int), Cond.methodLink RX2 61 Lib.Math.max.name, Cond.static Lib.Math.max.name, Cond.initialized "java/lang/Math", Cond.code Lib.Math.max.name Lib.Math.max.code 2 (some .int), Cond.instanceMethod yX2_filledLevel, Cond.selects RX2 yX2_filledLevel yX2_filledLevel, Cond.code yX2_filledLevel cX2_filledLevel 4 (some .int), Cond.methodLink RX2 58 yX2_lossOf, Cond.instanceMethod yX2_lossOf, Cond.selects RX2 yX2_lossOf yX2_lossOf, Cond.code yX2_lossOf cX2_lossOf 2 (some .int), Cond.methodLink RX2 30 yX2_inflowOf, Cond.instanceMethod yX2_inflowOf, Cond.selects RX2 yX2_inflowOf yX2_inflowOf, Cond.code yX2_inflowOf cX2_inflowOf 2 (some .int), Cond.instanceMethod yX2_wantedBy, Cond.selects RX2 yX2_wantedBy yX2_wantedBy, Cond.code yX2_wantedBy cX2_wantedBy 2 (some .int), Cond.instanceMethod yX2_letDownOf, Cond.selects RX2 yX2_letDownOf yX2_letDownOf, Cond.code yX2_letDownOf cX2_letDownOf 3 (some .int)]
def wsX0_follow_r3 : List Cond := [Cond.methodLink RX2 66 Lib.Math.min.name, Cond.static Lib.Math.min.name, Cond.code Lib.Math.min.name Lib.Math.min.code 2 (some .int), Cond.instanceMethod yX2_spilledOf, Cond.selects RX2 yX2_spilledOf yX2_spilledOf, Cond.code yX2_spilledOf cX2_spilledOf 2 (some .int), Cond.instanceMethod yX2_earnedBy, Cond.selects RX2 yX2_earnedBy yX2_earnedBy, Cond.code yX2_earnedBy cX2_earnedBy 6 (some .int), Cond.methodLink RX2 85 yX2_priceOf, Cond.instanceMethod yX2_priceOf, Cond.selects RX2 yX2_priceOf yX2_priceOf, Cond.code yX2_priceOf cX2_priceOf 2 (some .int), Cond.methodLink RX2 26 yX2_contracts, Cond.instanceMethod yX2_contracts, Cond.selects RX2 yX2_contracts yX2_contracts, Cond.code yX2_contracts cX2_contracts 1 (some .int), Cond.methodLink RX2 88 yX2_contractPart, Cond.instanceMethod yX2_contractPart, Cond.selects RX2 yX2_contractPart yX2_contractPart, Cond.code yX2_contractPart cX2_contractPart 4 (some .int), Cond.methodLink RX0 82 yX0_troubleOf, Cond.instanceMethod yX0_troubleOf, Cond.selects RX0 yX0_troubleOf yX0_troubleOf]
def wsX0_follow_r4 : List Cond := [Cond.code yX0_troubleOf cX0_troubleOf 5 (some .int), Cond.instanceMethod yX2_missedIn, Cond.selects RX2 yX2_missedIn yX2_missedIn, Cond.code yX2_missedIn cX2_missedIn 5 (some .int)]
def wsX0_follow : List Cond := .code yX0_follow cX0_follow 5 none :: ((wsX0_follow_r1 ++ (wsX0_follow_r2 ++ (wsX0_follow_r3 ++ wsX0_follow_r4))) ++ wsX00 ++ wsX20)
def wsX0_levelInTheEnd : List Cond := .code yX0_levelInTheEnd cX0_levelInTheEnd 1 (some .int) :: ([.fieldLink RX0 24 "LakePlant$Course" "level" "[I"] ++ wsX00)
def wsX0_setOf : List Cond := .code yX0_setOf cX0_setOf 4 (some .int) :: ([.fieldLink RX0 30 "LakePlant$Course" "trouble" "[I"] ++ wsX00)
def wsJ6_bitCount_0f7a4 : List Cond := .code yJ6_bitCount_0f7a4 cJ6_bitCount_0f7a4 1 (some .int) :: ([.constant RJ6 265 (1431655765), .constant RJ6 266 (858993459), .constant RJ6 267 (252645135)])
def wsX0_hoursWith : List Cond := .code yX0_hoursWith cX0_hoursWith 2 (some .int) :: ([.methodLink RX0 89 yX0_setOf, .instanceMethod yX0_setOf, .selects RX0 yX0_setOf yX0_setOf, .initialized RX0, .code yX0_setOf cX0_setOf 4 (some .int), .fieldLink RX0 30 "LakePlant$Course" "trouble" "[I", .methodLink RX0 92 yJ6_bitCount_0f7a4, .static yJ6_bitCount_0f7a4, .initialized RJ6, .code yJ6_bitCount_0f7a4 cJ6_bitCount_0f7a4 1 (some .int), .constant RJ6 265 (1431655765), .constant RJ6 266 (858993459), .constant RJ6 267 (252645135)] ++ wsX00)
def wsX0_missedContracts : List Cond := .code yX0_missedContracts cX0_missedContracts 3 (some .int) :: ([.fieldLink RX0 36 "LakePlant$Course" "lake" "LLakePlant$Lake;", .fieldLink RX0 9 "LakePlant$Course" "letDown" "[I", .instanceMethod yX2_missedIn, .initialized RX2, .selects RX2 yX2_missedIn yX2_missedIn, .code yX2_missedIn cX2_missedIn 5 (some .int), .methodLink RX2 26 yX2_contracts, .instanceMethod yX2_contracts, .selects RX2 yX2_contracts yX2_contracts, .code yX2_contracts cX2_contracts 1 (some .int), .fieldLink RX2 11 "LakePlant$Lake" "cells" "[I", .methodLink RX2 88 yX2_contractPart, .instanceMethod yX2_contractPart, .selects RX2 yX2_contractPart yX2_contractPart, .code yX2_contractPart cX2_contractPart 4 (some .int)] ++ wsX00 ++ wsX20)
def wsX1_init : List Cond := .code yX1_init cX1_init 1 none :: ([.methodLink RX1 3 objectInit, .instanceMethod objectInit, .code objectInit ⟨#[0xb1]⟩ 1 none, .classLink RX1 13 "[[I", .arrayClass .int, .fieldLink RX1 15 "LakePlant$History" "states" "[[I", .fieldLink RX1 18 "LakePlant$History" "aside" "I", .fieldLink RX1 22 "LakePlant$History" "length" "I"] ++ wsX10)
def wsX6_copyRow : List Cond := .code yX6_copyRow cX6_copyRow 2 none :: ([.methodLink RX6 257 Lib.Math.min.name, .static Lib.Math.min.name, .initialized "java/lang/Math", .code Lib.Math.min.name Lib.Math.min.code 2 (some .int), .methodLink RX6 262 arraycopyName, .native arraycopyName, .static arraycopyName, .initialized "java/lang/System"])
def wsX2_copyTo : List Cond := .code yX2_copyTo cX2_copyTo 2 none :: ([.fieldLink RX2 11 "LakePlant$Lake" "cells" "[I", .static yX6_copyRow, .initialized RX6, .code yX6_copyRow cX6_copyRow 2 none, .methodLink RX6 257 Lib.Math.min.name, .static Lib.Math.min.name, .initialized "java/lang/Math", .code Lib.Math.min.name Lib.Math.min.code 2 (some .int), .methodLink RX6 262 arraycopyName, .native arraycopyName, .static arraycopyName, .initialized "java/lang/System"] ++ wsX20)
def wsX1_keepAside : List Cond := .code yX1_keepAside cX1_keepAside 2 none :: ([.fieldLink RX1 18 "LakePlant$History" "aside" "I", .fieldLink RX1 15 "LakePlant$History" "states" "[[I", .instanceMethod yX2_copyTo, .initialized RX2, .selects RX2 yX2_copyTo yX2_copyTo, .code yX2_copyTo cX2_copyTo 2 none, .fieldLink RX2 11 "LakePlant$Lake" "cells" "[I", .static yX6_copyRow, .initialized RX6, .code yX6_copyRow cX6_copyRow 2 none, .methodLink RX6 257 Lib.Math.min.name, .static Lib.Math.min.name, .initialized "java/lang/Math", .code Lib.Math.min.name Lib.Math.min.code 2 (some .int), .methodLink RX6 262 arraycopyName, .native arraycopyName, .static arraycopyName, .initialized "java/lang/System"] ++ wsX10 ++ wsX20)
def wsX1_recordUnlessError : List Cond := .code yX1_recordUnlessError cX1_recordUnlessError 2 (some .int) :: ([.fieldLink RX1 18 "LakePlant$History" "aside" "I", .fieldLink RX1 22 "LakePlant$History" "length" "I", .methodLink RX1 29 Lib.Math.min.name, .static Lib.Math.min.name, .initialized "java/lang/Math", .code Lib.Math.min.name Lib.Math.min.code 2 (some .int)] ++ wsX10)
def wsX2_copyFrom : List Cond := .code yX2_copyFrom cX2_copyFrom 2 none :: ([.fieldLink RX2 11 "LakePlant$Lake" "cells" "[I", .fieldLink RX2 15 "LakePlant$Lake" "version" "I", .static yX6_copyRow, .initialized RX6, .code yX6_copyRow cX6_copyRow 2 none, .methodLink RX6 257 Lib.Math.min.name, .static Lib.Math.min.name, .initialized "java/lang/Math", .code Lib.Math.min.name Lib.Math.min.code 2 (some .int), .methodLink RX6 262 arraycopyName, .native arraycopyName, .static arraycopyName, .initialized "java/lang/System"] ++ wsX20)
def wsX1_takeBack : List Cond := .code yX1_takeBack cX1_takeBack 2 (some .int) :: ([.fieldLink RX1 22 "LakePlant$History" "length" "I", .fieldLink RX1 18 "LakePlant$History" "aside" "I", .fieldLink RX1 15 "LakePlant$History" "states" "[[I", .instanceMethod yX2_copyFrom, .initialized RX2, .selects RX2 yX2_copyFrom yX2_copyFrom, .code yX2_copyFrom cX2_copyFrom 2 none, .fieldLink RX2 11 "LakePlant$Lake" "cells" "[I", .fieldLink RX2 15 "LakePlant$Lake" "version" "I", .static yX6_copyRow, .initialized RX6, .code yX6_copyRow cX6_copyRow 2 none, .methodLink RX6 257 Lib.Math.min.name, .static Lib.Math.min.name, .initialized "java/lang/Math", .code Lib.Math.min.name Lib.Math.min.code 2 (some .int), .methodLink RX6 262 arraycopyName, .native arraycopyName, .static arraycopyName, .initialized "java/lang/System"] ++ wsX10 ++ wsX20)
def wsX2_init : List Cond := .code yX2_init cX2_init 2 none :: ([.methodLink RX2 5 objectInit, .instanceMethod objectInit, .code objectInit ⟨#[0xb1]⟩ 1 none, .arrayClass .int, .fieldLink RX2 11 "LakePlant$Lake" "cells" "[I", .fieldLink RX2 15 "LakePlant$Lake" "version" "I", .fieldLink RX2 19 "LakePlant$Lake" "FIRST_VALUES" "[I", .static yX6_copyRow, .initialized RX6, .code yX6_copyRow cX6_copyRow 2 none, .methodLink RX6 257 Lib.Math.min.name, .static Lib.Math.min.name, .initialized "java/lang/Math", .code Lib.Math.min.name Lib.Math.min.code 2 (some .int), .methodLink RX6 262 arraycopyName, .native arraycopyName, .static arraycopyName, .initialized "java/lang/System"] ++ wsX20)
def wsX2_isContract : List Cond := .code yX2_isContract cX2_isContract 2 (some .boolean) :: ([.methodLink RX2 26 yX2_contracts, .instanceMethod yX2_contracts, .selects RX2 yX2_contracts yX2_contracts, .initialized RX2, .code yX2_contracts cX2_contracts 1 (some .int), .fieldLink RX2 11 "LakePlant$Lake" "cells" "[I"] ++ wsX20)
def wsX2_allInflows : List Cond := .code yX2_allInflows cX2_allInflows 3 (some .int) :: ([.methodLink RX2 30 yX2_inflowOf, .instanceMethod yX2_inflowOf, .selects RX2 yX2_inflowOf yX2_inflowOf, .initialized RX2, .code yX2_inflowOf cX2_inflowOf 2 (some .int), .fieldLink RX2 11 "LakePlant$Lake" "cells" "[I"] ++ wsX20)
def wsX2_plansAreFrom : List Cond := .code yX2_plansAreFrom cX2_plansAreFrom 4 (some .boolean) :: ([.methodLink RX2 48 yX2_planOf, .instanceMethod yX2_planOf, .selects RX2 yX2_planOf yX2_planOf, .initialized RX2, .code yX2_planOf cX2_planOf 2 (some .int), .fieldLink RX2 11 "LakePlant$Lake" "cells" "[I"] ++ wsX20)
def wsX2_fitsTheRest : List Cond := .code yX2_fitsTheRest cX2_fitsTheRest 3 (some .boolean) :: ([.fieldLink RX2 11 "LakePlant$Lake" "cells" "[I", .methodLink RX2 45 yX2_plansAreFrom, .instanceMethod yX2_plansAreFrom, .selects RX2 yX2_plansAreFrom yX2_plansAreFrom, .initialized RX2, .code yX2_plansAreFrom cX2_plansAreFrom 4 (some .boolean), .methodLink RX2 48 yX2_planOf, .instanceMethod yX2_planOf, .selects RX2 yX2_planOf yX2_planOf, .code yX2_planOf cX2_planOf 2 (some .int)] ++ wsX20)
def wsX2_replaced : List Cond := .code yX2_replaced cX2_replaced 4 (some .int) :: ([.fieldLink RX2 11 "LakePlant$Lake" "cells" "[I"] ++ wsX20)
def wsX2_changeSetting : List Cond := .code yX2_changeSetting cX2_changeSetting 3 (some .int) :: ([.fieldLink RX2 34 "LakePlant$Lake" "MOST_VALUES" "[I", .fieldLink RX2 15 "LakePlant$Lake" "version" "I", .methodLink RX2 37 yX2_fitsTheRest, .instanceMethod yX2_fitsTheRest, .selects RX2 yX2_fitsTheRest yX2_fitsTheRest, .initialized RX2, .code yX2_fitsTheRest cX2_fitsTheRest 3 (some .boolean), .fieldLink RX2 11 "LakePlant$Lake" "cells" "[I", .methodLink RX2 45 yX2_plansAreFrom, .instanceMethod yX2_plansAreFrom, .selects RX2 yX2_plansAreFrom yX2_plansAreFrom, .code yX2_plansAreFrom cX2_plansAreFrom 4 (some .boolean), .methodLink RX2 48 yX2_planOf, .instanceMethod yX2_planOf, .selects RX2 yX2_planOf yX2_planOf, .code yX2_planOf cX2_planOf 2 (some .int), .methodLink RX2 41 yX2_replaced, .instanceMethod yX2_replaced, .selects RX2 yX2_replaced yX2_replaced, .code yX2_replaced cX2_replaced 4 (some .int)] ++ wsX20)
def wsX2_changePrice : List Cond := .code yX2_changePrice cX2_changePrice 3 (some .int) :: ([.fieldLink RX2 15 "LakePlant$Lake" "version" "I", .static yX6_isHour, .initialized RX6, .code yX6_isHour cX6_isHour 1 (some .boolean), .methodLink RX2 41 yX2_replaced, .instanceMethod yX2_replaced, .selects RX2 yX2_replaced yX2_replaced, .initialized RX2, .code yX2_replaced cX2_replaced 4 (some .int), .fieldLink RX2 11 "LakePlant$Lake" "cells" "[I"] ++ wsX20)
def wsX2_changeInflow : List Cond := .code yX2_changeInflow cX2_changeInflow 3 (some .int) :: ([.fieldLink RX2 15 "LakePlant$Lake" "version" "I", .static yX6_isHour, .initialized RX6, .code yX6_isHour cX6_isHour 1 (some .boolean), .methodLink RX2 41 yX2_replaced, .instanceMethod yX2_replaced, .selects RX2 yX2_replaced yX2_replaced, .initialized RX2, .code yX2_replaced cX2_replaced 4 (some .int), .fieldLink RX2 11 "LakePlant$Lake" "cells" "[I"] ++ wsX20)
def wsX2_changePlan : List Cond := .code yX2_changePlan cX2_changePlan 3 (some .int) :: ([.fieldLink RX2 11 "LakePlant$Lake" "cells" "[I", .static yX6_isHour, .initialized RX6, .code yX6_isHour cX6_isHour 1 (some .boolean), .methodLink RX2 41 yX2_replaced, .instanceMethod yX2_replaced, .selects RX2 yX2_replaced yX2_replaced, .initialized RX2, .code yX2_replaced cX2_replaced 4 (some .int)] ++ wsX20)
def wsX2_addContract : List Cond := .code yX2_addContract cX2_addContract 7 (some .int) :: ([.fieldLink RX2 11 "LakePlant$Lake" "cells" "[I", .fieldLink RX2 15 "LakePlant$Lake" "version" "I", .static yX6_isHour, .initialized RX6, .code yX6_isHour cX6_isHour 1 (some .boolean), .methodLink RX2 26 yX2_contracts, .instanceMethod yX2_contracts, .selects RX2 yX2_contracts yX2_contracts, .initialized RX2, .code yX2_contracts cX2_contracts 1 (some .int), .methodLink RX2 41 yX2_replaced, .instanceMethod yX2_replaced, .selects RX2 yX2_replaced yX2_replaced, .code yX2_replaced cX2_replaced 4 (some .int)] ++ wsX20)
def wsX2_removeContract : List Cond := .code yX2_removeContract cX2_removeContract 3 (some .int) :: ([.fieldLink RX2 11 "LakePlant$Lake" "cells" "[I", .fieldLink RX2 15 "LakePlant$Lake" "version" "I", .methodLink RX2 55 yX2_isContract, .instanceMethod yX2_isContract, .selects RX2 yX2_isContract yX2_isContract, .initialized RX2, .code yX2_isContract cX2_isContract 2 (some .boolean), .methodLink RX2 26 yX2_contracts, .instanceMethod yX2_contracts, .selects RX2 yX2_contracts yX2_contracts, .code yX2_contracts cX2_contracts 1 (some .int)] ++ wsX20)
def wsX2_levelBehind_r1 : List Cond := [Cond.methodLink RX2 69 yX2_pumpedBy, Cond.static yX2_pumpedBy, Cond.initialized RX2, Cond.code yX2_pumpedBy cX2_pumpedBy 1 (some .int), Cond.methodLink RX2 61 Lib.Math.max.name, Cond.static Lib.Math.max.name, Cond.initialized "java/lang/Math", Cond.code Lib.Math.max.name Lib.Math.max.code 2 (some .int), Cond.methodLink RX2 72 yX2_filledLevel, Cond.instanceMethod yX2_filledLevel, Cond.selects RX2 yX2_filledLevel yX2_filledLevel, Cond.code yX2_filledLevel cX2_filledLevel 4 (some .int), Cond.methodLink RX2 58 yX2_lossOf, Cond.instanceMethod yX2_lossOf, Cond.selects RX2 yX2_lossOf yX2_lossOf, Cond.code yX2_lossOf cX2_lossOf 2 (some .int), Cond.fieldLink RX2 11 "LakePlant$Lake" "cells" "[I", Cond.methodLink RX2 30 yX2_inflowOf, Cond.instanceMethod yX2_inflowOf, Cond.selects RX2 yX2_inflowOf yX2_inflowOf, Cond.code yX2_inflowOf cX2_inflowOf 2 (some .int), Cond.methodLink RX2 76 yX2_wantedBy, Cond.instanceMethod yX2_wantedBy, Cond.selects RX2 yX2_wantedBy yX2_wantedBy]
def wsX2_levelBehind_r2 : List Cond := [Cond.code yX2_wantedBy cX2_wantedBy 2 (some .int), Cond.methodLink RX2 79 yX2_letDownOf, Cond.instanceMethod yX2_letDownOf, Cond.selects RX2 yX2_letDownOf yX2_letDownOf, Cond.code yX2_letDownOf cX2_letDownOf 3 (some .int), Cond.methodLink RX2 66 Lib.Math.min.name, Cond.static Lib.Math.min.name, Cond.code Lib.Math.min.name Lib.Math.min.code 2 (some .int), Cond.methodLink RX2 82 yX2_spilledOf, Cond.instanceMethod yX2_spilledOf, Cond.selects RX2 yX2_spilledOf yX2_spilledOf, Cond.code yX2_spilledOf cX2_spilledOf 2 (some .int)]
def wsX2_levelBehind : List Cond := .code yX2_levelBehind cX2_levelBehind 6 (some .int) :: ((wsX2_levelBehind_r1 ++ wsX2_levelBehind_r2) ++ wsX20)
def wsX2_highestInTheEnd_r1 : List Cond := [Cond.fieldLink RX2 11 "LakePlant$Lake" "cells" "[I", Cond.methodLink RX2 91 yX2_levelBehind, Cond.instanceMethod yX2_levelBehind, Cond.selects RX2 yX2_levelBehind yX2_levelBehind, Cond.initialized RX2, Cond.code yX2_levelBehind cX2_levelBehind 6 (some .int), Cond.methodLink RX2 69 yX2_pumpedBy, Cond.static yX2_pumpedBy, Cond.code yX2_pumpedBy cX2_pumpedBy 1 (some .int), Cond.methodLink RX2 61 Lib.Math.max.name, Cond.static Lib.Math.max.name, Cond.initialized "java/lang/Math", Cond.code Lib.Math.max.name Lib.Math.max.code 2 (some .int), Cond.methodLink RX2 72 yX2_filledLevel, Cond.instanceMethod yX2_filledLevel, Cond.selects RX2 yX2_filledLevel yX2_filledLevel, Cond.code yX2_filledLevel cX2_filledLevel 4 (some .int), Cond.methodLink RX2 58 yX2_lossOf, Cond.instanceMethod yX2_lossOf, Cond.selects RX2 yX2_lossOf yX2_lossOf, Cond.code yX2_lossOf cX2_lossOf 2 (some .int), Cond.methodLink RX2 30 yX2_inflowOf, Cond.instanceMethod yX2_inflowOf, Cond.selects RX2 yX2_inflowOf yX2_inflowOf]
def wsX2_highestInTheEnd_r2 : List Cond := [Cond.code yX2_inflowOf cX2_inflowOf 2 (some .int), Cond.methodLink RX2 76 yX2_wantedBy, Cond.instanceMethod yX2_wantedBy, Cond.selects RX2 yX2_wantedBy yX2_wantedBy, Cond.code yX2_wantedBy cX2_wantedBy 2 (some .int), Cond.methodLink RX2 79 yX2_letDownOf, Cond.instanceMethod yX2_letDownOf, Cond.selects RX2 yX2_letDownOf yX2_letDownOf, Cond.code yX2_letDownOf cX2_letDownOf 3 (some .int), Cond.methodLink RX2 66 Lib.Math.min.name, Cond.static Lib.Math.min.name, Cond.code Lib.Math.min.name Lib.Math.min.code 2 (some .int), Cond.methodLink RX2 82 yX2_spilledOf, Cond.instanceMethod yX2_spilledOf, Cond.selects RX2 yX2_spilledOf yX2_spilledOf, Cond.code yX2_spilledOf cX2_spilledOf 2 (some .int)]
def wsX2_highestInTheEnd : List Cond := .code yX2_highestInTheEnd cX2_highestInTheEnd 3 (some .int) :: ((wsX2_highestInTheEnd_r1 ++ wsX2_highestInTheEnd_r2) ++ wsX20)
def wsX3_init : List Cond := .code yX3_init cX3_init 1 none :: ([.methodLink RX3 3 objectInit, .instanceMethod objectInit, .code objectInit ⟨#[0xb1]⟩ 1 none, .arrayClass .char, .fieldLink RX3 9 "LakePlant$Pad" "signs" "[C", .fieldLink RX3 15 "LakePlant$Pad" "length" "I"] ++ wsX30)
def wsX4_init : List Cond := .code yX4_init cX4_init 2 none :: ([.methodLink RX4 3 objectInit, .instanceMethod objectInit, .code objectInit ⟨#[0xb1]⟩ 1 none, .fieldLink RX4 9 "LakePlant$Reader" "at" "I", .fieldLink RX4 15 "LakePlant$Reader" "number" "I", .fieldLink RX4 18 "LakePlant$Reader" "kind" "C", .fieldLink RX4 22 "LakePlant$Reader" "first" "I", .fieldLink RX4 25 "LakePlant$Reader" "last" "I", .fieldLink RX4 28 "LakePlant$Reader" "value" "I", .fieldLink RX4 31 "LakePlant$Reader" "units" "I", .fieldLink RX4 34 "LakePlant$Reader" "bonus" "I", .fieldLink RX4 37 "LakePlant$Reader" "fine" "I", .fieldLink RX4 40 "LakePlant$Reader" "pad" "LLakePlant$Pad;"] ++ wsX40)
def wsX5_init : List Cond := .code yX5_init cX5_init 2 none :: ([.methodLink RX5 3 objectInit, .instanceMethod objectInit, .code objectInit ⟨#[0xb1]⟩ 1 none, .classLink RX5 9 "[[I", .arrayClass .int, .fieldLink RX5 11 "LakePlant$Search" "most" "[[I", .fieldLink RX5 16 "LakePlant$Search" "gained" "[I", .fieldLink RX5 20 "LakePlant$Search" "plan" "[I", .fieldLink RX5 23 "LakePlant$Search" "found" "Z", .fieldLink RX5 27 "LakePlant$Search" "solvedVersion" "I", .fieldLink RX5 31 "LakePlant$Search" "earned" "[I", .fieldLink RX5 34 "LakePlant$Search" "ahead" "[I", .fieldLink RX5 37 "LakePlant$Search" "idle" "[I", .fieldLink RX5 40 "LakePlant$Search" "lake" "LLakePlant$Lake;"] ++ wsX50)
def wsX5_mostFrom : List Cond := .code yX5_mostFrom cX5_mostFrom 3 (some .int) :: ([.constant RX5 53 (-1000000000), .fieldLink RX5 11 "LakePlant$Search" "most" "[[I"] ++ wsX50)
def wsX5_mostWith : List Cond := .code yX5_mostWith cX5_mostWith 4 (some .int) :: ([.fieldLink RX5 34 "LakePlant$Search" "ahead" "[I", .constant RX5 53 (-1000000000), .fieldLink RX5 31 "LakePlant$Search" "earned" "[I"] ++ wsX50)
def wsX5_lookAt_r1 : List Cond := [Cond.fieldLink RX5 31 "LakePlant$Search" "earned" "[I", Cond.fieldLink RX5 40 "LakePlant$Search" "lake" "LLakePlant$Lake;", Cond.fieldLink RX5 34 "LakePlant$Search" "ahead" "[I", Cond.fieldLink RX5 37 "LakePlant$Search" "idle" "[I", Cond.instanceMethod yX2_earnedBy, Cond.initialized RX2, Cond.selects RX2 yX2_earnedBy yX2_earnedBy, Cond.code yX2_earnedBy cX2_earnedBy 6 (some .int), Cond.fieldLink RX2 11 "LakePlant$Lake" "cells" "[I", Cond.methodLink RX2 85 yX2_priceOf, Cond.instanceMethod yX2_priceOf, Cond.selects RX2 yX2_priceOf yX2_priceOf, Cond.code yX2_priceOf cX2_priceOf 2 (some .int), Cond.methodLink RX2 26 yX2_contracts, Cond.instanceMethod yX2_contracts, Cond.selects RX2 yX2_contracts yX2_contracts, Cond.code yX2_contracts cX2_contracts 1 (some .int), Cond.methodLink RX2 88 yX2_contractPart, Cond.instanceMethod yX2_contractPart, Cond.selects RX2 yX2_contractPart yX2_contractPart, Cond.code yX2_contractPart cX2_contractPart 4 (some .int), Cond.instanceMethod yX2_spilledOf, Cond.selects RX2 yX2_spilledOf yX2_spilledOf, Cond.code yX2_spilledOf cX2_spilledOf 2 (some .int)]
def wsX5_lookAt_r2 : List Cond := [Cond.methodLink RX2 61 Lib.Math.max.name, Cond.static Lib.Math.max.name, Cond.initialized "java/lang/Math", Cond.code Lib.Math.max.name Lib.Math.max.code 2 (some .int), Cond.methodLink RX5 74 yX5_mostFrom, Cond.instanceMethod yX5_mostFrom, Cond.selects RX5 yX5_mostFrom yX5_mostFrom, Cond.initialized RX5, Cond.code yX5_mostFrom cX5_mostFrom 3 (some .int), Cond.constant RX5 53 (-1000000000), Cond.fieldLink RX5 11 "LakePlant$Search" "most" "[[I", Cond.instanceMethod yX2_settingOf, Cond.selects RX2 yX2_settingOf yX2_settingOf, Cond.code yX2_settingOf cX2_settingOf 2 (some .int), Cond.instanceMethod yX2_letDownOf, Cond.selects RX2 yX2_letDownOf yX2_letDownOf, Cond.code yX2_letDownOf cX2_letDownOf 3 (some .int), Cond.methodLink RX2 66 Lib.Math.min.name, Cond.static Lib.Math.min.name, Cond.code Lib.Math.min.name Lib.Math.min.code 2 (some .int), Cond.methodLink RX5 80 yX5_mostWith, Cond.instanceMethod yX5_mostWith, Cond.selects RX5 yX5_mostWith yX5_mostWith, Cond.code yX5_mostWith cX5_mostWith 4 (some .int)]
def wsX5_lookAt : List Cond := .code yX5_lookAt cX5_lookAt 4 none :: ((wsX5_lookAt_r1 ++ wsX5_lookAt_r2) ++ wsX50 ++ wsX20)
def wsX5_mostByPumping : List Cond := .code yX5_mostByPumping cX5_mostByPumping 7 (some .int) :: ([.fieldLink RX5 40 "LakePlant$Search" "lake" "LLakePlant$Lake;", .methodLink RX5 87 Lib.Math.min.name, .static Lib.Math.min.name, .initialized "java/lang/Math", .code Lib.Math.min.name Lib.Math.min.code 2 (some .int), .constant RX5 53 (-1000000000), .fieldLink RX5 16 "LakePlant$Search" "gained" "[I", .fieldLink RX5 37 "LakePlant$Search" "idle" "[I", .methodLink RX5 104 Lib.Math.max.name, .static Lib.Math.max.name, .code Lib.Math.max.name Lib.Math.max.code 2 (some .int), .instanceMethod yX2_settingOf, .initialized RX2, .selects RX2 yX2_settingOf yX2_settingOf, .code yX2_settingOf cX2_settingOf 2 (some .int), .fieldLink RX2 11 "LakePlant$Lake" "cells" "[I"] ++ wsX50 ++ wsX20)
def wsX5_mostByLettingDown : List Cond := .code yX5_mostByLettingDown cX5_mostByLettingDown 7 (some .int) :: ([.fieldLink RX5 40 "LakePlant$Search" "lake" "LLakePlant$Lake;", .methodLink RX5 87 Lib.Math.min.name, .static Lib.Math.min.name, .initialized "java/lang/Math", .code Lib.Math.min.name Lib.Math.min.code 2 (some .int), .constant RX5 53 (-1000000000), .fieldLink RX5 34 "LakePlant$Search" "ahead" "[I", .fieldLink RX5 31 "LakePlant$Search" "earned" "[I", .methodLink RX5 104 Lib.Math.max.name, .static Lib.Math.max.name, .code Lib.Math.max.name Lib.Math.max.code 2 (some .int), .instanceMethod yX2_settingOf, .initialized RX2, .selects RX2 yX2_settingOf yX2_settingOf, .code yX2_settingOf cX2_settingOf 2 (some .int), .fieldLink RX2 11 "LakePlant$Lake" "cells" "[I"] ++ wsX50 ++ wsX20)
def wsX5_solveHour_r1 : List Cond := [Cond.fieldLink RX5 40 "LakePlant$Search" "lake" "LLakePlant$Lake;", Cond.methodLink RX5 87 Lib.Math.min.name, Cond.static Lib.Math.min.name, Cond.initialized "java/lang/Math", Cond.code Lib.Math.min.name Lib.Math.min.code 2 (some .int), Cond.fieldLink RX5 11 "LakePlant$Search" "most" "[[I", Cond.methodLink RX5 104 Lib.Math.max.name, Cond.static Lib.Math.max.name, Cond.code Lib.Math.max.name Lib.Math.max.code 2 (some .int), Cond.static yX6_isHour, Cond.initialized RX6, Cond.code yX6_isHour cX6_isHour 1 (some .boolean), Cond.instanceMethod yX2_settingOf, Cond.initialized RX2, Cond.selects RX2 yX2_settingOf yX2_settingOf, Cond.code yX2_settingOf cX2_settingOf 2 (some .int), Cond.fieldLink RX2 11 "LakePlant$Lake" "cells" "[I", Cond.instanceMethod yX2_priceOf, Cond.selects RX2 yX2_priceOf yX2_priceOf, Cond.code yX2_priceOf cX2_priceOf 2 (some .int), Cond.instanceMethod yX2_inflowOf, Cond.selects RX2 yX2_inflowOf yX2_inflowOf, Cond.code yX2_inflowOf cX2_inflowOf 2 (some .int), Cond.methodLink RX5 98 yX5_mostByPumping]
def wsX5_solveHour_r2 : List Cond := [Cond.instanceMethod yX5_mostByPumping, Cond.selects RX5 yX5_mostByPumping yX5_mostByPumping, Cond.initialized RX5, Cond.code yX5_mostByPumping cX5_mostByPumping 7 (some .int), Cond.constant RX5 53 (-1000000000), Cond.fieldLink RX5 16 "LakePlant$Search" "gained" "[I", Cond.fieldLink RX5 37 "LakePlant$Search" "idle" "[I", Cond.methodLink RX5 101 yX5_mostByLettingDown, Cond.instanceMethod yX5_mostByLettingDown, Cond.selects RX5 yX5_mostByLettingDown yX5_mostByLettingDown, Cond.code yX5_mostByLettingDown cX5_mostByLettingDown 7 (some .int), Cond.fieldLink RX5 34 "LakePlant$Search" "ahead" "[I", Cond.fieldLink RX5 31 "LakePlant$Search" "earned" "[I"]
def wsX5_solveHour : List Cond := .code yX5_solveHour cX5_solveHour 6 none :: ((wsX5_solveHour_r1 ++ wsX5_solveHour_r2) ++ wsX50 ++ wsX20)
def wsX5_leastWithTheMost_r1 : List Cond := [Cond.fieldLink RX5 40 "LakePlant$Search" "lake" "LLakePlant$Lake;", Cond.constant RX5 53 (-1000000000), Cond.methodLink RX5 74 yX5_mostFrom, Cond.instanceMethod yX5_mostFrom, Cond.selects RX5 yX5_mostFrom yX5_mostFrom, Cond.initialized RX5, Cond.code yX5_mostFrom cX5_mostFrom 3 (some .int), Cond.fieldLink RX5 11 "LakePlant$Search" "most" "[[I", Cond.instanceMethod yX2_settingOf, Cond.initialized RX2, Cond.selects RX2 yX2_settingOf yX2_settingOf, Cond.code yX2_settingOf cX2_settingOf 2 (some .int), Cond.fieldLink RX2 11 "LakePlant$Lake" "cells" "[I", Cond.static yX2_pumpedBy, Cond.code yX2_pumpedBy cX2_pumpedBy 1 (some .int), Cond.methodLink RX2 61 Lib.Math.max.name, Cond.static Lib.Math.max.name, Cond.initialized "java/lang/Math", Cond.code Lib.Math.max.name Lib.Math.max.code 2 (some .int), Cond.instanceMethod yX2_filledLevel, Cond.selects RX2 yX2_filledLevel yX2_filledLevel, Cond.code yX2_filledLevel cX2_filledLevel 4 (some .int), Cond.methodLink RX2 58 yX2_lossOf, Cond.instanceMethod yX2_lossOf]
def wsX5_leastWithTheMost_r2 : List Cond := [Cond.selects RX2 yX2_lossOf yX2_lossOf, Cond.code yX2_lossOf cX2_lossOf 2 (some .int), Cond.methodLink RX2 30 yX2_inflowOf, Cond.instanceMethod yX2_inflowOf, Cond.selects RX2 yX2_inflowOf yX2_inflowOf, Cond.code yX2_inflowOf cX2_inflowOf 2 (some .int), Cond.instanceMethod yX2_wantedBy, Cond.selects RX2 yX2_wantedBy yX2_wantedBy, Cond.code yX2_wantedBy cX2_wantedBy 2 (some .int), Cond.instanceMethod yX2_letDownOf, Cond.selects RX2 yX2_letDownOf yX2_letDownOf, Cond.code yX2_letDownOf cX2_letDownOf 3 (some .int), Cond.methodLink RX2 66 Lib.Math.min.name, Cond.static Lib.Math.min.name, Cond.code Lib.Math.min.name Lib.Math.min.code 2 (some .int), Cond.methodLink RX5 80 yX5_mostWith, Cond.instanceMethod yX5_mostWith, Cond.selects RX5 yX5_mostWith yX5_mostWith, Cond.code yX5_mostWith cX5_mostWith 4 (some .int), Cond.fieldLink RX5 34 "LakePlant$Search" "ahead" "[I", Cond.fieldLink RX5 31 "LakePlant$Search" "earned" "[I", Cond.instanceMethod yX2_priceOf, Cond.selects RX2 yX2_priceOf yX2_priceOf, Cond.code yX2_priceOf cX2_priceOf 2 (some .int)]
def wsX5_leastWithTheMost : List Cond := .code yX5_leastWithTheMost cX5_leastWithTheMost 8 (some .int) :: ((wsX5_leastWithTheMost_r1 ++ wsX5_leastWithTheMost_r2) ++ wsX50 ++ wsX20)
def wsX5_choosePlan_r1 : List Cond := [Cond.fieldLink RX5 40 "LakePlant$Search" "lake" "LLakePlant$Lake;", Cond.constant RX5 53 (-1000000000), Cond.fieldLink RX5 23 "LakePlant$Search" "found" "Z", Cond.fieldLink RX5 20 "LakePlant$Search" "plan" "[I", Cond.instanceMethod yX2_settingOf, Cond.initialized RX2, Cond.selects RX2 yX2_settingOf yX2_settingOf, Cond.code yX2_settingOf cX2_settingOf 2 (some .int), Cond.fieldLink RX2 11 "LakePlant$Lake" "cells" "[I", Cond.methodLink RX5 74 yX5_mostFrom, Cond.instanceMethod yX5_mostFrom, Cond.selects RX5 yX5_mostFrom yX5_mostFrom, Cond.initialized RX5, Cond.code yX5_mostFrom cX5_mostFrom 3 (some .int), Cond.fieldLink RX5 11 "LakePlant$Search" "most" "[[I", Cond.methodLink RX5 57 yX5_lookAt, Cond.instanceMethod yX5_lookAt, Cond.selects RX5 yX5_lookAt yX5_lookAt, Cond.code yX5_lookAt cX5_lookAt 4 none, Cond.fieldLink RX5 31 "LakePlant$Search" "earned" "[I", Cond.fieldLink RX5 34 "LakePlant$Search" "ahead" "[I", Cond.fieldLink RX5 37 "LakePlant$Search" "idle" "[I", Cond.instanceMethod yX2_earnedBy, Cond.selects RX2 yX2_earnedBy yX2_earnedBy]
def wsX5_choosePlan_r2 : List Cond := [Cond.code yX2_earnedBy cX2_earnedBy 6 (some .int), Cond.methodLink RX2 85 yX2_priceOf, Cond.instanceMethod yX2_priceOf, Cond.selects RX2 yX2_priceOf yX2_priceOf, Cond.code yX2_priceOf cX2_priceOf 2 (some .int), Cond.methodLink RX2 26 yX2_contracts, Cond.instanceMethod yX2_contracts, Cond.selects RX2 yX2_contracts yX2_contracts, Cond.code yX2_contracts cX2_contracts 1 (some .int), Cond.methodLink RX2 88 yX2_contractPart, Cond.instanceMethod yX2_contractPart, Cond.selects RX2 yX2_contractPart yX2_contractPart, Cond.code yX2_contractPart cX2_contractPart 4 (some .int), Cond.instanceMethod yX2_spilledOf, Cond.selects RX2 yX2_spilledOf yX2_spilledOf, Cond.code yX2_spilledOf cX2_spilledOf 2 (some .int), Cond.methodLink RX2 61 Lib.Math.max.name, Cond.static Lib.Math.max.name, Cond.initialized "java/lang/Math", Cond.code Lib.Math.max.name Lib.Math.max.code 2 (some .int), Cond.instanceMethod yX2_letDownOf, Cond.selects RX2 yX2_letDownOf yX2_letDownOf, Cond.code yX2_letDownOf cX2_letDownOf 3 (some .int), Cond.methodLink RX2 66 Lib.Math.min.name]
def wsX5_choosePlan_r3 : List Cond := [Cond.static Lib.Math.min.name, Cond.code Lib.Math.min.name Lib.Math.min.code 2 (some .int), Cond.methodLink RX5 80 yX5_mostWith, Cond.instanceMethod yX5_mostWith, Cond.selects RX5 yX5_mostWith yX5_mostWith, Cond.code yX5_mostWith cX5_mostWith 4 (some .int), Cond.methodLink RX5 107 yX5_leastWithTheMost, Cond.instanceMethod yX5_leastWithTheMost, Cond.selects RX5 yX5_leastWithTheMost yX5_leastWithTheMost, Cond.code yX5_leastWithTheMost cX5_leastWithTheMost 8 (some .int), Cond.static yX2_pumpedBy, Cond.code yX2_pumpedBy cX2_pumpedBy 1 (some .int), Cond.instanceMethod yX2_filledLevel, Cond.selects RX2 yX2_filledLevel yX2_filledLevel, Cond.code yX2_filledLevel cX2_filledLevel 4 (some .int), Cond.methodLink RX2 58 yX2_lossOf, Cond.instanceMethod yX2_lossOf, Cond.selects RX2 yX2_lossOf yX2_lossOf, Cond.code yX2_lossOf cX2_lossOf 2 (some .int), Cond.methodLink RX2 30 yX2_inflowOf, Cond.instanceMethod yX2_inflowOf, Cond.selects RX2 yX2_inflowOf yX2_inflowOf, Cond.code yX2_inflowOf cX2_inflowOf 2 (some .int), Cond.instanceMethod yX2_wantedBy]
def wsX5_choosePlan_r4 : List Cond := [Cond.selects RX2 yX2_wantedBy yX2_wantedBy, Cond.code yX2_wantedBy cX2_wantedBy 2 (some .int), Cond.instanceMethod yX2_levelBehind, Cond.selects RX2 yX2_levelBehind yX2_levelBehind, Cond.code yX2_levelBehind cX2_levelBehind 6 (some .int), Cond.methodLink RX2 69 yX2_pumpedBy, Cond.methodLink RX2 72 yX2_filledLevel, Cond.methodLink RX2 76 yX2_wantedBy, Cond.methodLink RX2 79 yX2_letDownOf, Cond.methodLink RX2 82 yX2_spilledOf]
def wsX5_choosePlan : List Cond := .code yX5_choosePlan cX5_choosePlan 3 none :: ((wsX5_choosePlan_r1 ++ (wsX5_choosePlan_r2 ++ (wsX5_choosePlan_r3 ++ wsX5_choosePlan_r4))) ++ wsX50 ++ wsX20)
def wsX5_solve_r1 : List Cond := [Cond.fieldLink RX5 27 "LakePlant$Search" "solvedVersion" "I", Cond.fieldLink RX5 40 "LakePlant$Search" "lake" "LLakePlant$Lake;", Cond.fieldLink RX5 11 "LakePlant$Search" "most" "[[I", Cond.constant RX5 53 (-1000000000), Cond.fieldLink RX5 16 "LakePlant$Search" "gained" "[I", Cond.instanceMethod yX2_settingOf, Cond.initialized RX2, Cond.selects RX2 yX2_settingOf yX2_settingOf, Cond.code yX2_settingOf cX2_settingOf 2 (some .int), Cond.fieldLink RX2 11 "LakePlant$Lake" "cells" "[I", Cond.instanceMethod yX2_lossOf, Cond.selects RX2 yX2_lossOf yX2_lossOf, Cond.code yX2_lossOf cX2_lossOf 2 (some .int), Cond.methodLink RX5 57 yX5_lookAt, Cond.instanceMethod yX5_lookAt, Cond.selects RX5 yX5_lookAt yX5_lookAt, Cond.initialized RX5, Cond.code yX5_lookAt cX5_lookAt 4 none, Cond.fieldLink RX5 31 "LakePlant$Search" "earned" "[I", Cond.fieldLink RX5 34 "LakePlant$Search" "ahead" "[I", Cond.fieldLink RX5 37 "LakePlant$Search" "idle" "[I", Cond.instanceMethod yX2_earnedBy, Cond.selects RX2 yX2_earnedBy yX2_earnedBy, Cond.code yX2_earnedBy cX2_earnedBy 6 (some .int)]
def wsX5_solve_r2 : List Cond := [Cond.methodLink RX2 85 yX2_priceOf, Cond.instanceMethod yX2_priceOf, Cond.selects RX2 yX2_priceOf yX2_priceOf, Cond.code yX2_priceOf cX2_priceOf 2 (some .int), Cond.methodLink RX2 26 yX2_contracts, Cond.instanceMethod yX2_contracts, Cond.selects RX2 yX2_contracts yX2_contracts, Cond.code yX2_contracts cX2_contracts 1 (some .int), Cond.methodLink RX2 88 yX2_contractPart, Cond.instanceMethod yX2_contractPart, Cond.selects RX2 yX2_contractPart yX2_contractPart, Cond.code yX2_contractPart cX2_contractPart 4 (some .int), Cond.instanceMethod yX2_spilledOf, Cond.selects RX2 yX2_spilledOf yX2_spilledOf, Cond.code yX2_spilledOf cX2_spilledOf 2 (some .int), Cond.methodLink RX2 61 Lib.Math.max.name, Cond.static Lib.Math.max.name, Cond.initialized "java/lang/Math", Cond.code Lib.Math.max.name Lib.Math.max.code 2 (some .int), Cond.methodLink RX5 74 yX5_mostFrom, Cond.instanceMethod yX5_mostFrom, Cond.selects RX5 yX5_mostFrom yX5_mostFrom, Cond.code yX5_mostFrom cX5_mostFrom 3 (some .int), Cond.instanceMethod yX2_letDownOf]
def wsX5_solve_r3 : List Cond := [Cond.selects RX2 yX2_letDownOf yX2_letDownOf, Cond.code yX2_letDownOf cX2_letDownOf 3 (some .int), Cond.methodLink RX2 66 Lib.Math.min.name, Cond.static Lib.Math.min.name, Cond.code Lib.Math.min.name Lib.Math.min.code 2 (some .int), Cond.methodLink RX5 80 yX5_mostWith, Cond.instanceMethod yX5_mostWith, Cond.selects RX5 yX5_mostWith yX5_mostWith, Cond.code yX5_mostWith cX5_mostWith 4 (some .int), Cond.methodLink RX5 61 yX5_solveHour, Cond.instanceMethod yX5_solveHour, Cond.selects RX5 yX5_solveHour yX5_solveHour, Cond.code yX5_solveHour cX5_solveHour 6 none, Cond.methodLink RX5 87 Lib.Math.min.name, Cond.methodLink RX5 104 Lib.Math.max.name, Cond.static yX6_isHour, Cond.initialized RX6, Cond.code yX6_isHour cX6_isHour 1 (some .boolean), Cond.instanceMethod yX2_inflowOf, Cond.selects RX2 yX2_inflowOf yX2_inflowOf, Cond.code yX2_inflowOf cX2_inflowOf 2 (some .int), Cond.methodLink RX5 98 yX5_mostByPumping, Cond.instanceMethod yX5_mostByPumping, Cond.selects RX5 yX5_mostByPumping yX5_mostByPumping]
def wsX5_solve_r4 : List Cond := [Cond.code yX5_mostByPumping cX5_mostByPumping 7 (some .int), Cond.methodLink RX5 101 yX5_mostByLettingDown, Cond.instanceMethod yX5_mostByLettingDown, Cond.selects RX5 yX5_mostByLettingDown yX5_mostByLettingDown, Cond.code yX5_mostByLettingDown cX5_mostByLettingDown 7 (some .int), Cond.methodLink RX5 64 yX5_choosePlan, Cond.instanceMethod yX5_choosePlan, Cond.selects RX5 yX5_choosePlan yX5_choosePlan, Cond.code yX5_choosePlan cX5_choosePlan 3 none, Cond.fieldLink RX5 23 "LakePlant$Search" "found" "Z", Cond.fieldLink RX5 20 "LakePlant$Search" "plan" "[I", Cond.methodLink RX5 107 yX5_leastWithTheMost, Cond.instanceMethod yX5_leastWithTheMost, Cond.selects RX5 yX5_leastWithTheMost yX5_leastWithTheMost, Cond.code yX5_leastWithTheMost cX5_leastWithTheMost 8 (some .int), Cond.static yX2_pumpedBy, Cond.code yX2_pumpedBy cX2_pumpedBy 1 (some .int), Cond.instanceMethod yX2_filledLevel, Cond.selects RX2 yX2_filledLevel yX2_filledLevel, Cond.code yX2_filledLevel cX2_filledLevel 4 (some .int), Cond.methodLink RX2 58 yX2_lossOf, Cond.methodLink RX2 30 yX2_inflowOf, Cond.instanceMethod yX2_wantedBy, Cond.selects RX2 yX2_wantedBy yX2_wantedBy]
def wsX5_solve_r5 : List Cond := [Cond.code yX2_wantedBy cX2_wantedBy 2 (some .int), Cond.instanceMethod yX2_levelBehind, Cond.selects RX2 yX2_levelBehind yX2_levelBehind, Cond.code yX2_levelBehind cX2_levelBehind 6 (some .int), Cond.methodLink RX2 69 yX2_pumpedBy, Cond.methodLink RX2 72 yX2_filledLevel, Cond.methodLink RX2 76 yX2_wantedBy, Cond.methodLink RX2 79 yX2_letDownOf, Cond.methodLink RX2 82 yX2_spilledOf]
def wsX5_solve : List Cond := .code yX5_solve cX5_solve 2 none :: ((wsX5_solve_r1 ++ (wsX5_solve_r2 ++ (wsX5_solve_r3 ++ (wsX5_solve_r4 ++ wsX5_solve_r5)))) ++ wsX50 ++ wsX20)
def wsX6_init_r1 : List Cond := [Cond.methodLink RX6 1 objectInit, Cond.instanceMethod objectInit, Cond.code objectInit ⟨#[0xb1]⟩ 1 none, Cond.classLink RX6 7 RX2, Cond.instantiable RX2 2, Cond.initialized RX2, Cond.fieldLink RX6 10 "LakePlant" "lake" "LLakePlant$Lake;", Cond.classLink RX6 16 RX0, Cond.instantiable RX0 9, Cond.initialized RX0, Cond.fieldLink RX6 21 "LakePlant" "course" "LLakePlant$Course;", Cond.classLink RX6 25 RX5, Cond.instantiable RX5 9, Cond.initialized RX5, Cond.fieldLink RX6 28 "LakePlant" "search" "LLakePlant$Search;", Cond.classLink RX6 32 RX3, Cond.instantiable RX3 2, Cond.initialized RX3, Cond.fieldLink RX6 35 "LakePlant" "pad" "LLakePlant$Pad;", Cond.classLink RX6 39 RX4, Cond.instantiable RX4 10, Cond.initialized RX4, Cond.fieldLink RX6 44 "LakePlant" "reader" "LLakePlant$Reader;", Cond.classLink RX6 48 RX1]
def wsX6_init_r2 : List Cond := [Cond.instantiable RX1 3, Cond.initialized RX1, Cond.fieldLink RX6 51 "LakePlant" "history" "LLakePlant$History;", Cond.classLink RX6 55 "[[I", Cond.arrayClass .int, Cond.fieldLink RX6 57 "LakePlant" "slots" "[[I", Cond.arrayClass .boolean, Cond.fieldLink RX6 60 "LakePlant" "filledSlots" "[Z", Cond.instanceMethod yX2_init, Cond.code yX2_init cX2_init 2 none, Cond.methodLink RX2 5 objectInit, Cond.fieldLink RX2 11 "LakePlant$Lake" "cells" "[I", Cond.fieldLink RX2 15 "LakePlant$Lake" "version" "I", Cond.fieldLink RX2 19 "LakePlant$Lake" "FIRST_VALUES" "[I", Cond.static yX6_copyRow, Cond.initialized RX6, Cond.code yX6_copyRow cX6_copyRow 2 none, Cond.methodLink RX6 257 Lib.Math.min.name, Cond.static Lib.Math.min.name, Cond.initialized "java/lang/Math", Cond.code Lib.Math.min.name Lib.Math.min.code 2 (some .int), Cond.methodLink RX6 262 arraycopyName, Cond.native arraycopyName, Cond.static arraycopyName]
def wsX6_init_r3 : List Cond := [Cond.initialized "java/lang/System", Cond.instanceMethod yX0_init, Cond.code yX0_init cX0_init 2 none, Cond.methodLink RX0 3 objectInit, Cond.fieldLink RX0 9 "LakePlant$Course" "letDown" "[I", Cond.fieldLink RX0 15 "LakePlant$Course" "pumped" "[I", Cond.fieldLink RX0 18 "LakePlant$Course" "lost" "[I", Cond.fieldLink RX0 21 "LakePlant$Course" "spilled" "[I", Cond.fieldLink RX0 24 "LakePlant$Course" "level" "[I", Cond.fieldLink RX0 27 "LakePlant$Course" "money" "[I", Cond.fieldLink RX0 30 "LakePlant$Course" "trouble" "[I", Cond.fieldLink RX0 33 "LakePlant$Course" "cause" "[I", Cond.fieldLink RX0 36 "LakePlant$Course" "lake" "LLakePlant$Lake;", Cond.instanceMethod yX5_init, Cond.code yX5_init cX5_init 2 none, Cond.methodLink RX5 3 objectInit, Cond.classLink RX5 9 "[[I", Cond.fieldLink RX5 11 "LakePlant$Search" "most" "[[I", Cond.fieldLink RX5 16 "LakePlant$Search" "gained" "[I", Cond.fieldLink RX5 20 "LakePlant$Search" "plan" "[I", Cond.fieldLink RX5 23 "LakePlant$Search" "found" "Z", Cond.fieldLink RX5 27 "LakePlant$Search" "solvedVersion" "I", Cond.fieldLink RX5 31 "LakePlant$Search" "earned" "[I", Cond.fieldLink RX5 34 "LakePlant$Search" "ahead" "[I"]
def wsX6_init_r4 : List Cond := [Cond.fieldLink RX5 37 "LakePlant$Search" "idle" "[I", Cond.fieldLink RX5 40 "LakePlant$Search" "lake" "LLakePlant$Lake;", Cond.instanceMethod yX3_init, Cond.code yX3_init cX3_init 1 none, Cond.methodLink RX3 3 objectInit, Cond.arrayClass .char, Cond.fieldLink RX3 9 "LakePlant$Pad" "signs" "[C", Cond.fieldLink RX3 15 "LakePlant$Pad" "length" "I", Cond.instanceMethod yX4_init, Cond.code yX4_init cX4_init 2 none, Cond.methodLink RX4 3 objectInit, Cond.fieldLink RX4 9 "LakePlant$Reader" "at" "I", Cond.fieldLink RX4 15 "LakePlant$Reader" "number" "I", Cond.fieldLink RX4 18 "LakePlant$Reader" "kind" "C", Cond.fieldLink RX4 22 "LakePlant$Reader" "first" "I", Cond.fieldLink RX4 25 "LakePlant$Reader" "last" "I", Cond.fieldLink RX4 28 "LakePlant$Reader" "value" "I", Cond.fieldLink RX4 31 "LakePlant$Reader" "units" "I", Cond.fieldLink RX4 34 "LakePlant$Reader" "bonus" "I", Cond.fieldLink RX4 37 "LakePlant$Reader" "fine" "I", Cond.fieldLink RX4 40 "LakePlant$Reader" "pad" "LLakePlant$Pad;", Cond.instanceMethod yX1_init, Cond.code yX1_init cX1_init 1 none, Cond.methodLink RX1 3 objectInit]
def wsX6_init_r5 : List Cond := [Cond.classLink RX1 13 "[[I", Cond.fieldLink RX1 15 "LakePlant$History" "states" "[[I", Cond.fieldLink RX1 18 "LakePlant$History" "aside" "I", Cond.fieldLink RX1 22 "LakePlant$History" "length" "I"]
def wsX6_init : List Cond := .code yX6_init cX6_init 1 none :: ((wsX6_init_r1 ++ (wsX6_init_r2 ++ (wsX6_init_r3 ++ (wsX6_init_r4 ++ wsX6_init_r5)))) ++ wsX20 ++ wsX60 ++ wsX00 ++ wsX50 ++ wsX30 ++ wsX40 ++ wsX10)
def wsX6_set_r1 : List Cond := [Cond.fieldLink RX6 51 "LakePlant" "history" "LLakePlant$History;", Cond.fieldLink RX6 10 "LakePlant" "lake" "LLakePlant$Lake;", Cond.instanceMethod yX1_keepAside, Cond.initialized RX1, Cond.selects RX1 yX1_keepAside yX1_keepAside, Cond.code yX1_keepAside cX1_keepAside 2 none, Cond.fieldLink RX1 18 "LakePlant$History" "aside" "I", Cond.fieldLink RX1 15 "LakePlant$History" "states" "[[I", Cond.instanceMethod yX2_copyTo, Cond.initialized RX2, Cond.selects RX2 yX2_copyTo yX2_copyTo, Cond.code yX2_copyTo cX2_copyTo 2 none, Cond.fieldLink RX2 11 "LakePlant$Lake" "cells" "[I", Cond.static yX6_copyRow, Cond.initialized RX6, Cond.code yX6_copyRow cX6_copyRow 2 none, Cond.methodLink RX6 257 Lib.Math.min.name, Cond.static Lib.Math.min.name, Cond.initialized "java/lang/Math", Cond.code Lib.Math.min.name Lib.Math.min.code 2 (some .int), Cond.methodLink RX6 262 arraycopyName, Cond.native arraycopyName, Cond.static arraycopyName, Cond.initialized "java/lang/System"]
def wsX6_set_r2 : List Cond := [Cond.instanceMethod yX2_changeSetting, Cond.selects RX2 yX2_changeSetting yX2_changeSetting, Cond.code yX2_changeSetting cX2_changeSetting 3 (some .int), Cond.fieldLink RX2 34 "LakePlant$Lake" "MOST_VALUES" "[I", Cond.fieldLink RX2 15 "LakePlant$Lake" "version" "I", Cond.methodLink RX2 37 yX2_fitsTheRest, Cond.instanceMethod yX2_fitsTheRest, Cond.selects RX2 yX2_fitsTheRest yX2_fitsTheRest, Cond.code yX2_fitsTheRest cX2_fitsTheRest 3 (some .boolean), Cond.methodLink RX2 45 yX2_plansAreFrom, Cond.instanceMethod yX2_plansAreFrom, Cond.selects RX2 yX2_plansAreFrom yX2_plansAreFrom, Cond.code yX2_plansAreFrom cX2_plansAreFrom 4 (some .boolean), Cond.methodLink RX2 48 yX2_planOf, Cond.instanceMethod yX2_planOf, Cond.selects RX2 yX2_planOf yX2_planOf, Cond.code yX2_planOf cX2_planOf 2 (some .int), Cond.methodLink RX2 41 yX2_replaced, Cond.instanceMethod yX2_replaced, Cond.selects RX2 yX2_replaced yX2_replaced, Cond.code yX2_replaced cX2_replaced 4 (some .int), Cond.instanceMethod yX1_recordUnlessError, Cond.selects RX1 yX1_recordUnlessError yX1_recordUnlessError, Cond.code yX1_recordUnlessError cX1_recordUnlessError 2 (some .int)]
def wsX6_set_r3 : List Cond := [Cond.fieldLink RX1 22 "LakePlant$History" "length" "I", Cond.methodLink RX1 29 Lib.Math.min.name]
def wsX6_set : List Cond := .code yX6_set cX6_set 3 (some .int) :: ((wsX6_set_r1 ++ (wsX6_set_r2 ++ wsX6_set_r3)) ++ wsX60 ++ wsX10 ++ wsX20)
def wsX6_price_r1 : List Cond := [Cond.fieldLink RX6 51 "LakePlant" "history" "LLakePlant$History;", Cond.fieldLink RX6 10 "LakePlant" "lake" "LLakePlant$Lake;", Cond.instanceMethod yX1_keepAside, Cond.initialized RX1, Cond.selects RX1 yX1_keepAside yX1_keepAside, Cond.code yX1_keepAside cX1_keepAside 2 none, Cond.fieldLink RX1 18 "LakePlant$History" "aside" "I", Cond.fieldLink RX1 15 "LakePlant$History" "states" "[[I", Cond.instanceMethod yX2_copyTo, Cond.initialized RX2, Cond.selects RX2 yX2_copyTo yX2_copyTo, Cond.code yX2_copyTo cX2_copyTo 2 none, Cond.fieldLink RX2 11 "LakePlant$Lake" "cells" "[I", Cond.static yX6_copyRow, Cond.initialized RX6, Cond.code yX6_copyRow cX6_copyRow 2 none, Cond.methodLink RX6 257 Lib.Math.min.name, Cond.static Lib.Math.min.name, Cond.initialized "java/lang/Math", Cond.code Lib.Math.min.name Lib.Math.min.code 2 (some .int), Cond.methodLink RX6 262 arraycopyName, Cond.native arraycopyName, Cond.static arraycopyName, Cond.initialized "java/lang/System"]
def wsX6_price_r2 : List Cond := [Cond.instanceMethod yX2_changePrice, Cond.selects RX2 yX2_changePrice yX2_changePrice, Cond.code yX2_changePrice cX2_changePrice 3 (some .int), Cond.fieldLink RX2 15 "LakePlant$Lake" "version" "I", Cond.static yX6_isHour, Cond.code yX6_isHour cX6_isHour 1 (some .boolean), Cond.methodLink RX2 41 yX2_replaced, Cond.instanceMethod yX2_replaced, Cond.selects RX2 yX2_replaced yX2_replaced, Cond.code yX2_replaced cX2_replaced 4 (some .int), Cond.instanceMethod yX1_recordUnlessError, Cond.selects RX1 yX1_recordUnlessError yX1_recordUnlessError, Cond.code yX1_recordUnlessError cX1_recordUnlessError 2 (some .int), Cond.fieldLink RX1 22 "LakePlant$History" "length" "I", Cond.methodLink RX1 29 Lib.Math.min.name]
def wsX6_price : List Cond := .code yX6_price cX6_price 3 (some .int) :: ((wsX6_price_r1 ++ wsX6_price_r2) ++ wsX60 ++ wsX10 ++ wsX20)
def wsX6_inflow_r1 : List Cond := [Cond.fieldLink RX6 51 "LakePlant" "history" "LLakePlant$History;", Cond.fieldLink RX6 10 "LakePlant" "lake" "LLakePlant$Lake;", Cond.instanceMethod yX1_keepAside, Cond.initialized RX1, Cond.selects RX1 yX1_keepAside yX1_keepAside, Cond.code yX1_keepAside cX1_keepAside 2 none, Cond.fieldLink RX1 18 "LakePlant$History" "aside" "I", Cond.fieldLink RX1 15 "LakePlant$History" "states" "[[I", Cond.instanceMethod yX2_copyTo, Cond.initialized RX2, Cond.selects RX2 yX2_copyTo yX2_copyTo, Cond.code yX2_copyTo cX2_copyTo 2 none, Cond.fieldLink RX2 11 "LakePlant$Lake" "cells" "[I", Cond.static yX6_copyRow, Cond.initialized RX6, Cond.code yX6_copyRow cX6_copyRow 2 none, Cond.methodLink RX6 257 Lib.Math.min.name, Cond.static Lib.Math.min.name, Cond.initialized "java/lang/Math", Cond.code Lib.Math.min.name Lib.Math.min.code 2 (some .int), Cond.methodLink RX6 262 arraycopyName, Cond.native arraycopyName, Cond.static arraycopyName, Cond.initialized "java/lang/System"]
def wsX6_inflow_r2 : List Cond := [Cond.instanceMethod yX2_changeInflow, Cond.selects RX2 yX2_changeInflow yX2_changeInflow, Cond.code yX2_changeInflow cX2_changeInflow 3 (some .int), Cond.fieldLink RX2 15 "LakePlant$Lake" "version" "I", Cond.static yX6_isHour, Cond.code yX6_isHour cX6_isHour 1 (some .boolean), Cond.methodLink RX2 41 yX2_replaced, Cond.instanceMethod yX2_replaced, Cond.selects RX2 yX2_replaced yX2_replaced, Cond.code yX2_replaced cX2_replaced 4 (some .int), Cond.instanceMethod yX1_recordUnlessError, Cond.selects RX1 yX1_recordUnlessError yX1_recordUnlessError, Cond.code yX1_recordUnlessError cX1_recordUnlessError 2 (some .int), Cond.fieldLink RX1 22 "LakePlant$History" "length" "I", Cond.methodLink RX1 29 Lib.Math.min.name]
def wsX6_inflow : List Cond := .code yX6_inflow cX6_inflow 3 (some .int) :: ((wsX6_inflow_r1 ++ wsX6_inflow_r2) ++ wsX60 ++ wsX10 ++ wsX20)
def wsX6_plan_r1 : List Cond := [Cond.fieldLink RX6 51 "LakePlant" "history" "LLakePlant$History;", Cond.fieldLink RX6 10 "LakePlant" "lake" "LLakePlant$Lake;", Cond.instanceMethod yX1_keepAside, Cond.initialized RX1, Cond.selects RX1 yX1_keepAside yX1_keepAside, Cond.code yX1_keepAside cX1_keepAside 2 none, Cond.fieldLink RX1 18 "LakePlant$History" "aside" "I", Cond.fieldLink RX1 15 "LakePlant$History" "states" "[[I", Cond.instanceMethod yX2_copyTo, Cond.initialized RX2, Cond.selects RX2 yX2_copyTo yX2_copyTo, Cond.code yX2_copyTo cX2_copyTo 2 none, Cond.fieldLink RX2 11 "LakePlant$Lake" "cells" "[I", Cond.static yX6_copyRow, Cond.initialized RX6, Cond.code yX6_copyRow cX6_copyRow 2 none, Cond.methodLink RX6 257 Lib.Math.min.name, Cond.static Lib.Math.min.name, Cond.initialized "java/lang/Math", Cond.code Lib.Math.min.name Lib.Math.min.code 2 (some .int), Cond.methodLink RX6 262 arraycopyName, Cond.native arraycopyName, Cond.static arraycopyName, Cond.initialized "java/lang/System"]
def wsX6_plan_r2 : List Cond := [Cond.instanceMethod yX2_changePlan, Cond.selects RX2 yX2_changePlan yX2_changePlan, Cond.code yX2_changePlan cX2_changePlan 3 (some .int), Cond.static yX6_isHour, Cond.code yX6_isHour cX6_isHour 1 (some .boolean), Cond.methodLink RX2 41 yX2_replaced, Cond.instanceMethod yX2_replaced, Cond.selects RX2 yX2_replaced yX2_replaced, Cond.code yX2_replaced cX2_replaced 4 (some .int), Cond.instanceMethod yX1_recordUnlessError, Cond.selects RX1 yX1_recordUnlessError yX1_recordUnlessError, Cond.code yX1_recordUnlessError cX1_recordUnlessError 2 (some .int), Cond.fieldLink RX1 22 "LakePlant$History" "length" "I", Cond.methodLink RX1 29 Lib.Math.min.name]
def wsX6_plan : List Cond := .code yX6_plan cX6_plan 3 (some .int) :: ((wsX6_plan_r1 ++ wsX6_plan_r2) ++ wsX60 ++ wsX10 ++ wsX20)
def wsX6_contract_r1 : List Cond := [Cond.fieldLink RX6 51 "LakePlant" "history" "LLakePlant$History;", Cond.fieldLink RX6 10 "LakePlant" "lake" "LLakePlant$Lake;", Cond.instanceMethod yX1_keepAside, Cond.initialized RX1, Cond.selects RX1 yX1_keepAside yX1_keepAside, Cond.code yX1_keepAside cX1_keepAside 2 none, Cond.fieldLink RX1 18 "LakePlant$History" "aside" "I", Cond.fieldLink RX1 15 "LakePlant$History" "states" "[[I", Cond.instanceMethod yX2_copyTo, Cond.initialized RX2, Cond.selects RX2 yX2_copyTo yX2_copyTo, Cond.code yX2_copyTo cX2_copyTo 2 none, Cond.fieldLink RX2 11 "LakePlant$Lake" "cells" "[I", Cond.static yX6_copyRow, Cond.initialized RX6, Cond.code yX6_copyRow cX6_copyRow 2 none, Cond.methodLink RX6 257 Lib.Math.min.name, Cond.static Lib.Math.min.name, Cond.initialized "java/lang/Math", Cond.code Lib.Math.min.name Lib.Math.min.code 2 (some .int), Cond.methodLink RX6 262 arraycopyName, Cond.native arraycopyName, Cond.static arraycopyName, Cond.initialized "java/lang/System"]
def wsX6_contract_r2 : List Cond := [Cond.instanceMethod yX2_addContract, Cond.selects RX2 yX2_addContract yX2_addContract, Cond.code yX2_addContract cX2_addContract 7 (some .int), Cond.fieldLink RX2 15 "LakePlant$Lake" "version" "I", Cond.static yX6_isHour, Cond.code yX6_isHour cX6_isHour 1 (some .boolean), Cond.methodLink RX2 26 yX2_contracts, Cond.instanceMethod yX2_contracts, Cond.selects RX2 yX2_contracts yX2_contracts, Cond.code yX2_contracts cX2_contracts 1 (some .int), Cond.methodLink RX2 41 yX2_replaced, Cond.instanceMethod yX2_replaced, Cond.selects RX2 yX2_replaced yX2_replaced, Cond.code yX2_replaced cX2_replaced 4 (some .int), Cond.instanceMethod yX1_recordUnlessError, Cond.selects RX1 yX1_recordUnlessError yX1_recordUnlessError, Cond.code yX1_recordUnlessError cX1_recordUnlessError 2 (some .int), Cond.fieldLink RX1 22 "LakePlant$History" "length" "I", Cond.methodLink RX1 29 Lib.Math.min.name]
def wsX6_contract : List Cond := .code yX6_contract cX6_contract 5 (some .int) :: ((wsX6_contract_r1 ++ wsX6_contract_r2) ++ wsX60 ++ wsX10 ++ wsX20)
def wsX6_drop_r1 : List Cond := [Cond.fieldLink RX6 51 "LakePlant" "history" "LLakePlant$History;", Cond.fieldLink RX6 10 "LakePlant" "lake" "LLakePlant$Lake;", Cond.instanceMethod yX1_keepAside, Cond.initialized RX1, Cond.selects RX1 yX1_keepAside yX1_keepAside, Cond.code yX1_keepAside cX1_keepAside 2 none, Cond.fieldLink RX1 18 "LakePlant$History" "aside" "I", Cond.fieldLink RX1 15 "LakePlant$History" "states" "[[I", Cond.instanceMethod yX2_copyTo, Cond.initialized RX2, Cond.selects RX2 yX2_copyTo yX2_copyTo, Cond.code yX2_copyTo cX2_copyTo 2 none, Cond.fieldLink RX2 11 "LakePlant$Lake" "cells" "[I", Cond.static yX6_copyRow, Cond.initialized RX6, Cond.code yX6_copyRow cX6_copyRow 2 none, Cond.methodLink RX6 257 Lib.Math.min.name, Cond.static Lib.Math.min.name, Cond.initialized "java/lang/Math", Cond.code Lib.Math.min.name Lib.Math.min.code 2 (some .int), Cond.methodLink RX6 262 arraycopyName, Cond.native arraycopyName, Cond.static arraycopyName, Cond.initialized "java/lang/System"]
def wsX6_drop_r2 : List Cond := [Cond.instanceMethod yX2_removeContract, Cond.selects RX2 yX2_removeContract yX2_removeContract, Cond.code yX2_removeContract cX2_removeContract 3 (some .int), Cond.fieldLink RX2 15 "LakePlant$Lake" "version" "I", Cond.methodLink RX2 55 yX2_isContract, Cond.instanceMethod yX2_isContract, Cond.selects RX2 yX2_isContract yX2_isContract, Cond.code yX2_isContract cX2_isContract 2 (some .boolean), Cond.methodLink RX2 26 yX2_contracts, Cond.instanceMethod yX2_contracts, Cond.selects RX2 yX2_contracts yX2_contracts, Cond.code yX2_contracts cX2_contracts 1 (some .int), Cond.instanceMethod yX1_recordUnlessError, Cond.selects RX1 yX1_recordUnlessError yX1_recordUnlessError, Cond.code yX1_recordUnlessError cX1_recordUnlessError 2 (some .int), Cond.fieldLink RX1 22 "LakePlant$History" "length" "I", Cond.methodLink RX1 29 Lib.Math.min.name]
def wsX6_drop : List Cond := .code yX6_drop cX6_drop 2 (some .int) :: ((wsX6_drop_r1 ++ wsX6_drop_r2) ++ wsX60 ++ wsX10 ++ wsX20)
def wsX6_adoptBest_r1 : List Cond := [Cond.fieldLink RX6 28 "LakePlant" "search" "LLakePlant$Search;", Cond.fieldLink RX6 10 "LakePlant" "lake" "LLakePlant$Lake;", Cond.instanceMethod yX5_solve, Cond.initialized RX5, Cond.selects RX5 yX5_solve yX5_solve, Cond.code yX5_solve cX5_solve 2 none, Cond.fieldLink RX5 27 "LakePlant$Search" "solvedVersion" "I", Cond.fieldLink RX5 40 "LakePlant$Search" "lake" "LLakePlant$Lake;", Cond.fieldLink RX5 11 "LakePlant$Search" "most" "[[I", Cond.constant RX5 53 (-1000000000), Cond.fieldLink RX5 16 "LakePlant$Search" "gained" "[I", Cond.instanceMethod yX2_settingOf, Cond.initialized RX2, Cond.selects RX2 yX2_settingOf yX2_settingOf, Cond.code yX2_settingOf cX2_settingOf 2 (some .int), Cond.fieldLink RX2 11 "LakePlant$Lake" "cells" "[I", Cond.instanceMethod yX2_lossOf, Cond.selects RX2 yX2_lossOf yX2_lossOf, Cond.code yX2_lossOf cX2_lossOf 2 (some .int), Cond.methodLink RX5 57 yX5_lookAt, Cond.instanceMethod yX5_lookAt, Cond.selects RX5 yX5_lookAt yX5_lookAt, Cond.code yX5_lookAt cX5_lookAt 4 none, Cond.fieldLink RX5 31 "LakePlant$Search" "earned" "[I"]
def wsX6_adoptBest_r2 : List Cond := [Cond.fieldLink RX5 34 "LakePlant$Search" "ahead" "[I", Cond.fieldLink RX5 37 "LakePlant$Search" "idle" "[I", Cond.instanceMethod yX2_earnedBy, Cond.selects RX2 yX2_earnedBy yX2_earnedBy, Cond.code yX2_earnedBy cX2_earnedBy 6 (some .int), Cond.methodLink RX2 85 yX2_priceOf, Cond.instanceMethod yX2_priceOf, Cond.selects RX2 yX2_priceOf yX2_priceOf, Cond.code yX2_priceOf cX2_priceOf 2 (some .int), Cond.methodLink RX2 26 yX2_contracts, Cond.instanceMethod yX2_contracts, Cond.selects RX2 yX2_contracts yX2_contracts, Cond.code yX2_contracts cX2_contracts 1 (some .int), Cond.methodLink RX2 88 yX2_contractPart, Cond.instanceMethod yX2_contractPart, Cond.selects RX2 yX2_contractPart yX2_contractPart, Cond.code yX2_contractPart cX2_contractPart 4 (some .int), Cond.instanceMethod yX2_spilledOf, Cond.selects RX2 yX2_spilledOf yX2_spilledOf, Cond.code yX2_spilledOf cX2_spilledOf 2 (some .int), Cond.methodLink RX2 61 Lib.Math.max.name, Cond.static Lib.Math.max.name, Cond.initialized "java/lang/Math", Cond.code Lib.Math.max.name Lib.Math.max.code 2 (some .int)]
def wsX6_adoptBest_r3 : List Cond := [Cond.methodLink RX5 74 yX5_mostFrom, Cond.instanceMethod yX5_mostFrom, Cond.selects RX5 yX5_mostFrom yX5_mostFrom, Cond.code yX5_mostFrom cX5_mostFrom 3 (some .int), Cond.instanceMethod yX2_letDownOf, Cond.selects RX2 yX2_letDownOf yX2_letDownOf, Cond.code yX2_letDownOf cX2_letDownOf 3 (some .int), Cond.methodLink RX2 66 Lib.Math.min.name, Cond.static Lib.Math.min.name, Cond.code Lib.Math.min.name Lib.Math.min.code 2 (some .int), Cond.methodLink RX5 80 yX5_mostWith, Cond.instanceMethod yX5_mostWith, Cond.selects RX5 yX5_mostWith yX5_mostWith, Cond.code yX5_mostWith cX5_mostWith 4 (some .int), Cond.methodLink RX5 61 yX5_solveHour, Cond.instanceMethod yX5_solveHour, Cond.selects RX5 yX5_solveHour yX5_solveHour, Cond.code yX5_solveHour cX5_solveHour 6 none, Cond.methodLink RX5 87 Lib.Math.min.name, Cond.methodLink RX5 104 Lib.Math.max.name, Cond.static yX6_isHour, Cond.initialized RX6, Cond.code yX6_isHour cX6_isHour 1 (some .boolean), Cond.instanceMethod yX2_inflowOf]
def wsX6_adoptBest_r4 : List Cond := [Cond.selects RX2 yX2_inflowOf yX2_inflowOf, Cond.code yX2_inflowOf cX2_inflowOf 2 (some .int), Cond.methodLink RX5 98 yX5_mostByPumping, Cond.instanceMethod yX5_mostByPumping, Cond.selects RX5 yX5_mostByPumping yX5_mostByPumping, Cond.code yX5_mostByPumping cX5_mostByPumping 7 (some .int), Cond.methodLink RX5 101 yX5_mostByLettingDown, Cond.instanceMethod yX5_mostByLettingDown, Cond.selects RX5 yX5_mostByLettingDown yX5_mostByLettingDown, Cond.code yX5_mostByLettingDown cX5_mostByLettingDown 7 (some .int), Cond.methodLink RX5 64 yX5_choosePlan, Cond.instanceMethod yX5_choosePlan, Cond.selects RX5 yX5_choosePlan yX5_choosePlan, Cond.code yX5_choosePlan cX5_choosePlan 3 none, Cond.fieldLink RX5 23 "LakePlant$Search" "found" "Z", Cond.fieldLink RX5 20 "LakePlant$Search" "plan" "[I", Cond.methodLink RX5 107 yX5_leastWithTheMost, Cond.instanceMethod yX5_leastWithTheMost, Cond.selects RX5 yX5_leastWithTheMost yX5_leastWithTheMost, Cond.code yX5_leastWithTheMost cX5_leastWithTheMost 8 (some .int), Cond.static yX2_pumpedBy, Cond.code yX2_pumpedBy cX2_pumpedBy 1 (some .int), Cond.instanceMethod yX2_filledLevel, Cond.selects RX2 yX2_filledLevel yX2_filledLevel]
def wsX6_adoptBest_r5 : List Cond := [Cond.code yX2_filledLevel cX2_filledLevel 4 (some .int), Cond.methodLink RX2 58 yX2_lossOf, Cond.methodLink RX2 30 yX2_inflowOf, Cond.instanceMethod yX2_wantedBy, Cond.selects RX2 yX2_wantedBy yX2_wantedBy, Cond.code yX2_wantedBy cX2_wantedBy 2 (some .int), Cond.instanceMethod yX2_levelBehind, Cond.selects RX2 yX2_levelBehind yX2_levelBehind, Cond.code yX2_levelBehind cX2_levelBehind 6 (some .int), Cond.methodLink RX2 69 yX2_pumpedBy, Cond.methodLink RX2 72 yX2_filledLevel, Cond.methodLink RX2 76 yX2_wantedBy, Cond.methodLink RX2 79 yX2_letDownOf, Cond.methodLink RX2 82 yX2_spilledOf, Cond.instanceMethod yX2_planOf, Cond.selects RX2 yX2_planOf yX2_planOf, Cond.code yX2_planOf cX2_planOf 2 (some .int), Cond.instanceMethod yX2_changePlan, Cond.selects RX2 yX2_changePlan yX2_changePlan, Cond.code yX2_changePlan cX2_changePlan 3 (some .int), Cond.methodLink RX2 41 yX2_replaced, Cond.instanceMethod yX2_replaced, Cond.selects RX2 yX2_replaced yX2_replaced, Cond.code yX2_replaced cX2_replaced 4 (some .int)]
def wsX6_adoptBest : List Cond := .code yX6_adoptBest cX6_adoptBest 3 (some .int) :: ((wsX6_adoptBest_r1 ++ (wsX6_adoptBest_r2 ++ (wsX6_adoptBest_r3 ++ (wsX6_adoptBest_r4 ++ wsX6_adoptBest_r5)))) ++ wsX60 ++ wsX50 ++ wsX20)
def wsX6_adopt_r1 : List Cond := [Cond.fieldLink RX6 51 "LakePlant" "history" "LLakePlant$History;", Cond.fieldLink RX6 10 "LakePlant" "lake" "LLakePlant$Lake;", Cond.instanceMethod yX1_keepAside, Cond.initialized RX1, Cond.selects RX1 yX1_keepAside yX1_keepAside, Cond.code yX1_keepAside cX1_keepAside 2 none, Cond.fieldLink RX1 18 "LakePlant$History" "aside" "I", Cond.fieldLink RX1 15 "LakePlant$History" "states" "[[I", Cond.instanceMethod yX2_copyTo, Cond.initialized RX2, Cond.selects RX2 yX2_copyTo yX2_copyTo, Cond.code yX2_copyTo cX2_copyTo 2 none, Cond.fieldLink RX2 11 "LakePlant$Lake" "cells" "[I", Cond.static yX6_copyRow, Cond.initialized RX6, Cond.code yX6_copyRow cX6_copyRow 2 none, Cond.methodLink RX6 257 Lib.Math.min.name, Cond.static Lib.Math.min.name, Cond.initialized "java/lang/Math", Cond.code Lib.Math.min.name Lib.Math.min.code 2 (some .int), Cond.methodLink RX6 262 arraycopyName, Cond.native arraycopyName, Cond.static arraycopyName, Cond.initialized "java/lang/System"]
def wsX6_adopt_r2 : List Cond := [Cond.methodLink RX6 91 yX6_adoptBest, Cond.instanceMethod yX6_adoptBest, Cond.selects RX6 yX6_adoptBest yX6_adoptBest, Cond.code yX6_adoptBest cX6_adoptBest 3 (some .int), Cond.fieldLink RX6 28 "LakePlant" "search" "LLakePlant$Search;", Cond.instanceMethod yX5_solve, Cond.initialized RX5, Cond.selects RX5 yX5_solve yX5_solve, Cond.code yX5_solve cX5_solve 2 none, Cond.fieldLink RX5 27 "LakePlant$Search" "solvedVersion" "I", Cond.fieldLink RX5 40 "LakePlant$Search" "lake" "LLakePlant$Lake;", Cond.fieldLink RX5 11 "LakePlant$Search" "most" "[[I", Cond.constant RX5 53 (-1000000000), Cond.fieldLink RX5 16 "LakePlant$Search" "gained" "[I", Cond.instanceMethod yX2_settingOf, Cond.selects RX2 yX2_settingOf yX2_settingOf, Cond.code yX2_settingOf cX2_settingOf 2 (some .int), Cond.instanceMethod yX2_lossOf, Cond.selects RX2 yX2_lossOf yX2_lossOf, Cond.code yX2_lossOf cX2_lossOf 2 (some .int), Cond.methodLink RX5 57 yX5_lookAt, Cond.instanceMethod yX5_lookAt, Cond.selects RX5 yX5_lookAt yX5_lookAt, Cond.code yX5_lookAt cX5_lookAt 4 none]
def wsX6_adopt_r3 : List Cond := [Cond.fieldLink RX5 31 "LakePlant$Search" "earned" "[I", Cond.fieldLink RX5 34 "LakePlant$Search" "ahead" "[I", Cond.fieldLink RX5 37 "LakePlant$Search" "idle" "[I", Cond.instanceMethod yX2_earnedBy, Cond.selects RX2 yX2_earnedBy yX2_earnedBy, Cond.code yX2_earnedBy cX2_earnedBy 6 (some .int), Cond.methodLink RX2 85 yX2_priceOf, Cond.instanceMethod yX2_priceOf, Cond.selects RX2 yX2_priceOf yX2_priceOf, Cond.code yX2_priceOf cX2_priceOf 2 (some .int), Cond.methodLink RX2 26 yX2_contracts, Cond.instanceMethod yX2_contracts, Cond.selects RX2 yX2_contracts yX2_contracts, Cond.code yX2_contracts cX2_contracts 1 (some .int), Cond.methodLink RX2 88 yX2_contractPart, Cond.instanceMethod yX2_contractPart, Cond.selects RX2 yX2_contractPart yX2_contractPart, Cond.code yX2_contractPart cX2_contractPart 4 (some .int), Cond.instanceMethod yX2_spilledOf, Cond.selects RX2 yX2_spilledOf yX2_spilledOf, Cond.code yX2_spilledOf cX2_spilledOf 2 (some .int), Cond.methodLink RX2 61 Lib.Math.max.name, Cond.static Lib.Math.max.name, Cond.code Lib.Math.max.name Lib.Math.max.code 2 (some .int)]
def wsX6_adopt_r4 : List Cond := [Cond.methodLink RX5 74 yX5_mostFrom, Cond.instanceMethod yX5_mostFrom, Cond.selects RX5 yX5_mostFrom yX5_mostFrom, Cond.code yX5_mostFrom cX5_mostFrom 3 (some .int), Cond.instanceMethod yX2_letDownOf, Cond.selects RX2 yX2_letDownOf yX2_letDownOf, Cond.code yX2_letDownOf cX2_letDownOf 3 (some .int), Cond.methodLink RX2 66 Lib.Math.min.name, Cond.methodLink RX5 80 yX5_mostWith, Cond.instanceMethod yX5_mostWith, Cond.selects RX5 yX5_mostWith yX5_mostWith, Cond.code yX5_mostWith cX5_mostWith 4 (some .int), Cond.methodLink RX5 61 yX5_solveHour, Cond.instanceMethod yX5_solveHour, Cond.selects RX5 yX5_solveHour yX5_solveHour, Cond.code yX5_solveHour cX5_solveHour 6 none, Cond.methodLink RX5 87 Lib.Math.min.name, Cond.methodLink RX5 104 Lib.Math.max.name, Cond.static yX6_isHour, Cond.code yX6_isHour cX6_isHour 1 (some .boolean), Cond.instanceMethod yX2_inflowOf, Cond.selects RX2 yX2_inflowOf yX2_inflowOf, Cond.code yX2_inflowOf cX2_inflowOf 2 (some .int), Cond.methodLink RX5 98 yX5_mostByPumping]
def wsX6_adopt_r5 : List Cond := [Cond.instanceMethod yX5_mostByPumping, Cond.selects RX5 yX5_mostByPumping yX5_mostByPumping, Cond.code yX5_mostByPumping cX5_mostByPumping 7 (some .int), Cond.methodLink RX5 101 yX5_mostByLettingDown, Cond.instanceMethod yX5_mostByLettingDown, Cond.selects RX5 yX5_mostByLettingDown yX5_mostByLettingDown, Cond.code yX5_mostByLettingDown cX5_mostByLettingDown 7 (some .int), Cond.methodLink RX5 64 yX5_choosePlan, Cond.instanceMethod yX5_choosePlan, Cond.selects RX5 yX5_choosePlan yX5_choosePlan, Cond.code yX5_choosePlan cX5_choosePlan 3 none, Cond.fieldLink RX5 23 "LakePlant$Search" "found" "Z", Cond.fieldLink RX5 20 "LakePlant$Search" "plan" "[I", Cond.methodLink RX5 107 yX5_leastWithTheMost, Cond.instanceMethod yX5_leastWithTheMost, Cond.selects RX5 yX5_leastWithTheMost yX5_leastWithTheMost, Cond.code yX5_leastWithTheMost cX5_leastWithTheMost 8 (some .int), Cond.static yX2_pumpedBy, Cond.code yX2_pumpedBy cX2_pumpedBy 1 (some .int), Cond.instanceMethod yX2_filledLevel, Cond.selects RX2 yX2_filledLevel yX2_filledLevel, Cond.code yX2_filledLevel cX2_filledLevel 4 (some .int), Cond.methodLink RX2 58 yX2_lossOf, Cond.methodLink RX2 30 yX2_inflowOf]
def wsX6_adopt_r6 : List Cond := [Cond.instanceMethod yX2_wantedBy, Cond.selects RX2 yX2_wantedBy yX2_wantedBy, Cond.code yX2_wantedBy cX2_wantedBy 2 (some .int), Cond.instanceMethod yX2_levelBehind, Cond.selects RX2 yX2_levelBehind yX2_levelBehind, Cond.code yX2_levelBehind cX2_levelBehind 6 (some .int), Cond.methodLink RX2 69 yX2_pumpedBy, Cond.methodLink RX2 72 yX2_filledLevel, Cond.methodLink RX2 76 yX2_wantedBy, Cond.methodLink RX2 79 yX2_letDownOf, Cond.methodLink RX2 82 yX2_spilledOf, Cond.instanceMethod yX2_planOf, Cond.selects RX2 yX2_planOf yX2_planOf, Cond.code yX2_planOf cX2_planOf 2 (some .int), Cond.instanceMethod yX2_changePlan, Cond.selects RX2 yX2_changePlan yX2_changePlan, Cond.code yX2_changePlan cX2_changePlan 3 (some .int), Cond.methodLink RX2 41 yX2_replaced, Cond.instanceMethod yX2_replaced, Cond.selects RX2 yX2_replaced yX2_replaced, Cond.code yX2_replaced cX2_replaced 4 (some .int), Cond.instanceMethod yX1_recordUnlessError, Cond.selects RX1 yX1_recordUnlessError yX1_recordUnlessError, Cond.code yX1_recordUnlessError cX1_recordUnlessError 2 (some .int)]
def wsX6_adopt_r7 : List Cond := [Cond.fieldLink RX1 22 "LakePlant$History" "length" "I", Cond.methodLink RX1 29 Lib.Math.min.name]
def wsX6_adopt : List Cond := .code yX6_adopt cX6_adopt 1 (some .int) :: ((wsX6_adopt_r1 ++ (wsX6_adopt_r2 ++ (wsX6_adopt_r3 ++ (wsX6_adopt_r4 ++ (wsX6_adopt_r5 ++ (wsX6_adopt_r6 ++ wsX6_adopt_r7)))))) ++ wsX60 ++ wsX10 ++ wsX20 ++ wsX50)
def wsX6_hour_r1 : List Cond := [Cond.fieldLink RX6 21 "LakePlant" "course" "LLakePlant$Course;", Cond.fieldLink RX6 10 "LakePlant" "lake" "LLakePlant$Lake;", Cond.constant RX6 130 (1000000), Cond.methodLink RX6 95 yX6_isHour, Cond.static yX6_isHour, Cond.initialized RX6, Cond.code yX6_isHour cX6_isHour 1 (some .boolean), Cond.instanceMethod yX0_follow, Cond.initialized RX0, Cond.selects RX0 yX0_follow yX0_follow, Cond.code yX0_follow cX0_follow 5 none, Cond.fieldLink RX0 36 "LakePlant$Course" "lake" "LLakePlant$Lake;", Cond.fieldLink RX0 30 "LakePlant$Course" "trouble" "[I", Cond.fieldLink RX0 33 "LakePlant$Course" "cause" "[I", Cond.fieldLink RX0 21 "LakePlant$Course" "spilled" "[I", Cond.instanceMethod yX2_settingOf, Cond.initialized RX2, Cond.selects RX2 yX2_settingOf yX2_settingOf, Cond.code yX2_settingOf cX2_settingOf 2 (some .int), Cond.fieldLink RX2 11 "LakePlant$Lake" "cells" "[I", Cond.methodLink RX0 46 yX0_followHour, Cond.instanceMethod yX0_followHour, Cond.selects RX0 yX0_followHour yX0_followHour, Cond.code yX0_followHour cX0_followHour 8 (some .int)]
def wsX6_hour_r2 : List Cond := [Cond.fieldLink RX0 15 "LakePlant$Course" "pumped" "[I", Cond.fieldLink RX0 18 "LakePlant$Course" "lost" "[I", Cond.fieldLink RX0 9 "LakePlant$Course" "letDown" "[I", Cond.fieldLink RX0 24 "LakePlant$Course" "level" "[I", Cond.fieldLink RX0 27 "LakePlant$Course" "money" "[I", Cond.instanceMethod yX2_planOf, Cond.selects RX2 yX2_planOf yX2_planOf, Cond.code yX2_planOf cX2_planOf 2 (some .int), Cond.static yX2_pumpedBy, Cond.code yX2_pumpedBy cX2_pumpedBy 1 (some .int), Cond.methodLink RX2 61 Lib.Math.max.name, Cond.static Lib.Math.max.name, Cond.initialized "java/lang/Math", Cond.code Lib.Math.max.name Lib.Math.max.code 2 (some .int), Cond.instanceMethod yX2_filledLevel, Cond.selects RX2 yX2_filledLevel yX2_filledLevel, Cond.code yX2_filledLevel cX2_filledLevel 4 (some .int), Cond.methodLink RX2 58 yX2_lossOf, Cond.instanceMethod yX2_lossOf, Cond.selects RX2 yX2_lossOf yX2_lossOf, Cond.code yX2_lossOf cX2_lossOf 2 (some .int), Cond.methodLink RX2 30 yX2_inflowOf, Cond.instanceMethod yX2_inflowOf, Cond.selects RX2 yX2_inflowOf yX2_inflowOf]
def wsX6_hour_r3 : List Cond := [Cond.code yX2_inflowOf cX2_inflowOf 2 (some .int), Cond.instanceMethod yX2_wantedBy, Cond.selects RX2 yX2_wantedBy yX2_wantedBy, Cond.code yX2_wantedBy cX2_wantedBy 2 (some .int), Cond.instanceMethod yX2_letDownOf, Cond.selects RX2 yX2_letDownOf yX2_letDownOf, Cond.code yX2_letDownOf cX2_letDownOf 3 (some .int), Cond.methodLink RX2 66 Lib.Math.min.name, Cond.static Lib.Math.min.name, Cond.code Lib.Math.min.name Lib.Math.min.code 2 (some .int), Cond.instanceMethod yX2_spilledOf, Cond.selects RX2 yX2_spilledOf yX2_spilledOf, Cond.code yX2_spilledOf cX2_spilledOf 2 (some .int), Cond.instanceMethod yX2_earnedBy, Cond.selects RX2 yX2_earnedBy yX2_earnedBy, Cond.code yX2_earnedBy cX2_earnedBy 6 (some .int), Cond.methodLink RX2 85 yX2_priceOf, Cond.instanceMethod yX2_priceOf, Cond.selects RX2 yX2_priceOf yX2_priceOf, Cond.code yX2_priceOf cX2_priceOf 2 (some .int), Cond.methodLink RX2 26 yX2_contracts, Cond.instanceMethod yX2_contracts, Cond.selects RX2 yX2_contracts yX2_contracts, Cond.code yX2_contracts cX2_contracts 1 (some .int)]
def wsX6_hour_r4 : List Cond := [Cond.methodLink RX2 88 yX2_contractPart, Cond.instanceMethod yX2_contractPart, Cond.selects RX2 yX2_contractPart yX2_contractPart, Cond.code yX2_contractPart cX2_contractPart 4 (some .int), Cond.methodLink RX0 82 yX0_troubleOf, Cond.instanceMethod yX0_troubleOf, Cond.selects RX0 yX0_troubleOf yX0_troubleOf, Cond.code yX0_troubleOf cX0_troubleOf 5 (some .int), Cond.instanceMethod yX2_missedIn, Cond.selects RX2 yX2_missedIn yX2_missedIn, Cond.code yX2_missedIn cX2_missedIn 5 (some .int)]
def wsX6_hour : List Cond := .code yX6_hour cX6_hour 3 (some .int) :: ((wsX6_hour_r1 ++ (wsX6_hour_r2 ++ (wsX6_hour_r3 ++ wsX6_hour_r4))) ++ wsX60 ++ wsX00 ++ wsX20)
def wsX6_sumOf : List Cond := .code yX6_sumOf cX6_sumOf 3 (some .int) :: ([])
def wsX6_moneyOfDay : List Cond := .code yX6_moneyOfDay cX6_moneyOfDay 1 (some .int) :: ([.fieldLink RX6 21 "LakePlant" "course" "LLakePlant$Course;", .constant RX6 186 (10000000), .methodLink RX6 149 yX6_sumOf, .static yX6_sumOf, .initialized RX6, .code yX6_sumOf cX6_sumOf 3 (some .int)] ++ wsX60 ++ wsX00)
def wsX6_day_r1 : List Cond := [Cond.fieldLink RX6 21 "LakePlant" "course" "LLakePlant$Course;", Cond.fieldLink RX6 10 "LakePlant" "lake" "LLakePlant$Lake;", Cond.instanceMethod yX0_follow, Cond.initialized RX0, Cond.selects RX0 yX0_follow yX0_follow, Cond.code yX0_follow cX0_follow 5 none, Cond.fieldLink RX0 36 "LakePlant$Course" "lake" "LLakePlant$Lake;", Cond.fieldLink RX0 30 "LakePlant$Course" "trouble" "[I", Cond.fieldLink RX0 33 "LakePlant$Course" "cause" "[I", Cond.fieldLink RX0 21 "LakePlant$Course" "spilled" "[I", Cond.instanceMethod yX2_settingOf, Cond.initialized RX2, Cond.selects RX2 yX2_settingOf yX2_settingOf, Cond.code yX2_settingOf cX2_settingOf 2 (some .int), Cond.fieldLink RX2 11 "LakePlant$Lake" "cells" "[I", Cond.methodLink RX0 46 yX0_followHour, Cond.instanceMethod yX0_followHour, Cond.selects RX0 yX0_followHour yX0_followHour, Cond.code yX0_followHour cX0_followHour 8 (some .int), Cond.fieldLink RX0 15 "LakePlant$Course" "pumped" "[I", Cond.fieldLink RX0 18 "LakePlant$Course" "lost" "[I", Cond.fieldLink RX0 9 "LakePlant$Course" "letDown" "[I", Cond.fieldLink RX0 24 "LakePlant$Course" "level" "[I", Cond.fieldLink RX0 27 "LakePlant$Course" "money" "[I"]
def wsX6_day_r2 : List Cond := [Cond.static yX6_isHour, Cond.initialized RX6, Cond.code yX6_isHour cX6_isHour 1 (some .boolean), Cond.instanceMethod yX2_planOf, Cond.selects RX2 yX2_planOf yX2_planOf, Cond.code yX2_planOf cX2_planOf 2 (some .int), Cond.static yX2_pumpedBy, Cond.code yX2_pumpedBy cX2_pumpedBy 1 (some .int), Cond.methodLink RX2 61 Lib.Math.max.name, Cond.static Lib.Math.max.name, Cond.initialized "java/lang/Math", Cond.code Lib.Math.max.name Lib.Math.max.code 2 (some .int), Cond.instanceMethod yX2_filledLevel, Cond.selects RX2 yX2_filledLevel yX2_filledLevel, Cond.code yX2_filledLevel cX2_filledLevel 4 (some .int), Cond.methodLink RX2 58 yX2_lossOf, Cond.instanceMethod yX2_lossOf, Cond.selects RX2 yX2_lossOf yX2_lossOf, Cond.code yX2_lossOf cX2_lossOf 2 (some .int), Cond.methodLink RX2 30 yX2_inflowOf, Cond.instanceMethod yX2_inflowOf, Cond.selects RX2 yX2_inflowOf yX2_inflowOf, Cond.code yX2_inflowOf cX2_inflowOf 2 (some .int), Cond.instanceMethod yX2_wantedBy]
def wsX6_day_r3 : List Cond := [Cond.selects RX2 yX2_wantedBy yX2_wantedBy, Cond.code yX2_wantedBy cX2_wantedBy 2 (some .int), Cond.instanceMethod yX2_letDownOf, Cond.selects RX2 yX2_letDownOf yX2_letDownOf, Cond.code yX2_letDownOf cX2_letDownOf 3 (some .int), Cond.methodLink RX2 66 Lib.Math.min.name, Cond.static Lib.Math.min.name, Cond.code Lib.Math.min.name Lib.Math.min.code 2 (some .int), Cond.instanceMethod yX2_spilledOf, Cond.selects RX2 yX2_spilledOf yX2_spilledOf, Cond.code yX2_spilledOf cX2_spilledOf 2 (some .int), Cond.instanceMethod yX2_earnedBy, Cond.selects RX2 yX2_earnedBy yX2_earnedBy, Cond.code yX2_earnedBy cX2_earnedBy 6 (some .int), Cond.methodLink RX2 85 yX2_priceOf, Cond.instanceMethod yX2_priceOf, Cond.selects RX2 yX2_priceOf yX2_priceOf, Cond.code yX2_priceOf cX2_priceOf 2 (some .int), Cond.methodLink RX2 26 yX2_contracts, Cond.instanceMethod yX2_contracts, Cond.selects RX2 yX2_contracts yX2_contracts, Cond.code yX2_contracts cX2_contracts 1 (some .int), Cond.methodLink RX2 88 yX2_contractPart, Cond.instanceMethod yX2_contractPart]
def wsX6_day_r4 : List Cond := [Cond.selects RX2 yX2_contractPart yX2_contractPart, Cond.code yX2_contractPart cX2_contractPart 4 (some .int), Cond.methodLink RX0 82 yX0_troubleOf, Cond.instanceMethod yX0_troubleOf, Cond.selects RX0 yX0_troubleOf yX0_troubleOf, Cond.code yX0_troubleOf cX0_troubleOf 5 (some .int), Cond.instanceMethod yX2_missedIn, Cond.selects RX2 yX2_missedIn yX2_missedIn, Cond.code yX2_missedIn cX2_missedIn 5 (some .int), Cond.methodLink RX6 146 yX6_moneyOfDay, Cond.instanceMethod yX6_moneyOfDay, Cond.selects RX6 yX6_moneyOfDay yX6_moneyOfDay, Cond.code yX6_moneyOfDay cX6_moneyOfDay 1 (some .int), Cond.constant RX6 186 (10000000), Cond.methodLink RX6 149 yX6_sumOf, Cond.static yX6_sumOf, Cond.code yX6_sumOf cX6_sumOf 3 (some .int), Cond.instanceMethod yX0_levelInTheEnd, Cond.selects RX0 yX0_levelInTheEnd yX0_levelInTheEnd, Cond.code yX0_levelInTheEnd cX0_levelInTheEnd 1 (some .int), Cond.instanceMethod yX0_hoursWith, Cond.selects RX0 yX0_hoursWith yX0_hoursWith, Cond.code yX0_hoursWith cX0_hoursWith 2 (some .int), Cond.methodLink RX0 89 yX0_setOf]
def wsX6_day_r5 : List Cond := [Cond.instanceMethod yX0_setOf, Cond.selects RX0 yX0_setOf yX0_setOf, Cond.code yX0_setOf cX0_setOf 4 (some .int), Cond.methodLink RX0 92 yJ6_bitCount_0f7a4, Cond.static yJ6_bitCount_0f7a4, Cond.initialized RJ6, Cond.code yJ6_bitCount_0f7a4 cJ6_bitCount_0f7a4 1 (some .int), Cond.constant RJ6 265 (1431655765), Cond.constant RJ6 266 (858993459), Cond.constant RJ6 267 (252645135), Cond.instanceMethod yX0_missedContracts, Cond.selects RX0 yX0_missedContracts yX0_missedContracts, Cond.code yX0_missedContracts cX0_missedContracts 3 (some .int), Cond.instanceMethod yX2_allInflows, Cond.selects RX2 yX2_allInflows yX2_allInflows, Cond.code yX2_allInflows cX2_allInflows 3 (some .int)]
def wsX6_day : List Cond := .code yX6_day cX6_day 2 (some .int) :: ((wsX6_day_r1 ++ (wsX6_day_r2 ++ (wsX6_day_r3 ++ (wsX6_day_r4 ++ wsX6_day_r5)))) ++ wsX60 ++ wsX00 ++ wsX20)
def wsX6_troubled_r1 : List Cond := [Cond.fieldLink RX6 21 "LakePlant" "course" "LLakePlant$Course;", Cond.instanceMethod yX0_follow, Cond.initialized RX0, Cond.selects RX0 yX0_follow yX0_follow, Cond.code yX0_follow cX0_follow 5 none, Cond.fieldLink RX0 36 "LakePlant$Course" "lake" "LLakePlant$Lake;", Cond.fieldLink RX0 30 "LakePlant$Course" "trouble" "[I", Cond.fieldLink RX0 33 "LakePlant$Course" "cause" "[I", Cond.fieldLink RX0 21 "LakePlant$Course" "spilled" "[I", Cond.instanceMethod yX2_settingOf, Cond.initialized RX2, Cond.selects RX2 yX2_settingOf yX2_settingOf, Cond.code yX2_settingOf cX2_settingOf 2 (some .int), Cond.fieldLink RX2 11 "LakePlant$Lake" "cells" "[I", Cond.methodLink RX0 46 yX0_followHour, Cond.instanceMethod yX0_followHour, Cond.selects RX0 yX0_followHour yX0_followHour, Cond.code yX0_followHour cX0_followHour 8 (some .int), Cond.fieldLink RX0 15 "LakePlant$Course" "pumped" "[I", Cond.fieldLink RX0 18 "LakePlant$Course" "lost" "[I", Cond.fieldLink RX0 9 "LakePlant$Course" "letDown" "[I", Cond.fieldLink RX0 24 "LakePlant$Course" "level" "[I", Cond.fieldLink RX0 27 "LakePlant$Course" "money" "[I", Cond.static yX6_isHour]
def wsX6_troubled_r2 : List Cond := [Cond.initialized RX6, Cond.code yX6_isHour cX6_isHour 1 (some .boolean), Cond.instanceMethod yX2_planOf, Cond.selects RX2 yX2_planOf yX2_planOf, Cond.code yX2_planOf cX2_planOf 2 (some .int), Cond.static yX2_pumpedBy, Cond.code yX2_pumpedBy cX2_pumpedBy 1 (some .int), Cond.methodLink RX2 61 Lib.Math.max.name, Cond.static Lib.Math.max.name, Cond.initialized "java/lang/Math", Cond.code Lib.Math.max.name Lib.Math.max.code 2 (some .int), Cond.instanceMethod yX2_filledLevel, Cond.selects RX2 yX2_filledLevel yX2_filledLevel, Cond.code yX2_filledLevel cX2_filledLevel 4 (some .int), Cond.methodLink RX2 58 yX2_lossOf, Cond.instanceMethod yX2_lossOf, Cond.selects RX2 yX2_lossOf yX2_lossOf, Cond.code yX2_lossOf cX2_lossOf 2 (some .int), Cond.methodLink RX2 30 yX2_inflowOf, Cond.instanceMethod yX2_inflowOf, Cond.selects RX2 yX2_inflowOf yX2_inflowOf, Cond.code yX2_inflowOf cX2_inflowOf 2 (some .int), Cond.instanceMethod yX2_wantedBy, Cond.selects RX2 yX2_wantedBy yX2_wantedBy]
def wsX6_troubled_r3 : List Cond := [Cond.code yX2_wantedBy cX2_wantedBy 2 (some .int), Cond.instanceMethod yX2_letDownOf, Cond.selects RX2 yX2_letDownOf yX2_letDownOf, Cond.code yX2_letDownOf cX2_letDownOf 3 (some .int), Cond.methodLink RX2 66 Lib.Math.min.name, Cond.static Lib.Math.min.name, Cond.code Lib.Math.min.name Lib.Math.min.code 2 (some .int), Cond.instanceMethod yX2_spilledOf, Cond.selects RX2 yX2_spilledOf yX2_spilledOf, Cond.code yX2_spilledOf cX2_spilledOf 2 (some .int), Cond.instanceMethod yX2_earnedBy, Cond.selects RX2 yX2_earnedBy yX2_earnedBy, Cond.code yX2_earnedBy cX2_earnedBy 6 (some .int), Cond.methodLink RX2 85 yX2_priceOf, Cond.instanceMethod yX2_priceOf, Cond.selects RX2 yX2_priceOf yX2_priceOf, Cond.code yX2_priceOf cX2_priceOf 2 (some .int), Cond.methodLink RX2 26 yX2_contracts, Cond.instanceMethod yX2_contracts, Cond.selects RX2 yX2_contracts yX2_contracts, Cond.code yX2_contracts cX2_contracts 1 (some .int), Cond.methodLink RX2 88 yX2_contractPart, Cond.instanceMethod yX2_contractPart, Cond.selects RX2 yX2_contractPart yX2_contractPart]
def wsX6_troubled_r4 : List Cond := [Cond.code yX2_contractPart cX2_contractPart 4 (some .int), Cond.methodLink RX0 82 yX0_troubleOf, Cond.instanceMethod yX0_troubleOf, Cond.selects RX0 yX0_troubleOf yX0_troubleOf, Cond.code yX0_troubleOf cX0_troubleOf 5 (some .int), Cond.instanceMethod yX2_missedIn, Cond.selects RX2 yX2_missedIn yX2_missedIn, Cond.code yX2_missedIn cX2_missedIn 5 (some .int), Cond.instanceMethod yX0_setOf, Cond.selects RX0 yX0_setOf yX0_setOf, Cond.code yX0_setOf cX0_setOf 4 (some .int)]
def wsX6_troubled : List Cond := .code yX6_troubled cX6_troubled 2 (some .int) :: ((wsX6_troubled_r1 ++ (wsX6_troubled_r2 ++ (wsX6_troubled_r3 ++ wsX6_troubled_r4))) ++ wsX60 ++ wsX00 ++ wsX20)
def wsX6_count : List Cond := .code yX6_count cX6_count 2 (some .int) :: ([.fieldLink RX6 10 "LakePlant" "lake" "LLakePlant$Lake;", .fieldLink RX6 35 "LakePlant" "pad" "LLakePlant$Pad;", .fieldLink RX6 51 "LakePlant" "history" "LLakePlant$History;", .instanceMethod yX2_settingOf, .initialized RX2, .selects RX2 yX2_settingOf yX2_settingOf, .code yX2_settingOf cX2_settingOf 2 (some .int), .fieldLink RX2 11 "LakePlant$Lake" "cells" "[I", .instanceMethod yX2_contracts, .selects RX2 yX2_contracts yX2_contracts, .code yX2_contracts cX2_contracts 1 (some .int)] ++ wsX60 ++ wsX30 ++ wsX10 ++ wsX20)
def wsX6_best_r1 : List Cond := [Cond.fieldLink RX6 28 "LakePlant" "search" "LLakePlant$Search;", Cond.fieldLink RX6 10 "LakePlant" "lake" "LLakePlant$Lake;", Cond.constant RX6 185 (-1000000000), Cond.constant RX6 186 (10000000), Cond.instanceMethod yX5_solve, Cond.initialized RX5, Cond.selects RX5 yX5_solve yX5_solve, Cond.code yX5_solve cX5_solve 2 none, Cond.fieldLink RX5 27 "LakePlant$Search" "solvedVersion" "I", Cond.fieldLink RX5 40 "LakePlant$Search" "lake" "LLakePlant$Lake;", Cond.fieldLink RX5 11 "LakePlant$Search" "most" "[[I", Cond.constant RX5 53 (-1000000000), Cond.fieldLink RX5 16 "LakePlant$Search" "gained" "[I", Cond.instanceMethod yX2_settingOf, Cond.initialized RX2, Cond.selects RX2 yX2_settingOf yX2_settingOf, Cond.code yX2_settingOf cX2_settingOf 2 (some .int), Cond.fieldLink RX2 11 "LakePlant$Lake" "cells" "[I", Cond.instanceMethod yX2_lossOf, Cond.selects RX2 yX2_lossOf yX2_lossOf, Cond.code yX2_lossOf cX2_lossOf 2 (some .int), Cond.methodLink RX5 57 yX5_lookAt, Cond.instanceMethod yX5_lookAt, Cond.selects RX5 yX5_lookAt yX5_lookAt]
def wsX6_best_r2 : List Cond := [Cond.code yX5_lookAt cX5_lookAt 4 none, Cond.fieldLink RX5 31 "LakePlant$Search" "earned" "[I", Cond.fieldLink RX5 34 "LakePlant$Search" "ahead" "[I", Cond.fieldLink RX5 37 "LakePlant$Search" "idle" "[I", Cond.instanceMethod yX2_earnedBy, Cond.selects RX2 yX2_earnedBy yX2_earnedBy, Cond.code yX2_earnedBy cX2_earnedBy 6 (some .int), Cond.methodLink RX2 85 yX2_priceOf, Cond.instanceMethod yX2_priceOf, Cond.selects RX2 yX2_priceOf yX2_priceOf, Cond.code yX2_priceOf cX2_priceOf 2 (some .int), Cond.methodLink RX2 26 yX2_contracts, Cond.instanceMethod yX2_contracts, Cond.selects RX2 yX2_contracts yX2_contracts, Cond.code yX2_contracts cX2_contracts 1 (some .int), Cond.methodLink RX2 88 yX2_contractPart, Cond.instanceMethod yX2_contractPart, Cond.selects RX2 yX2_contractPart yX2_contractPart, Cond.code yX2_contractPart cX2_contractPart 4 (some .int), Cond.instanceMethod yX2_spilledOf, Cond.selects RX2 yX2_spilledOf yX2_spilledOf, Cond.code yX2_spilledOf cX2_spilledOf 2 (some .int), Cond.methodLink RX2 61 Lib.Math.max.name, Cond.static Lib.Math.max.name]
def wsX6_best_r3 : List Cond := [Cond.initialized "java/lang/Math", Cond.code Lib.Math.max.name Lib.Math.max.code 2 (some .int), Cond.methodLink RX5 74 yX5_mostFrom, Cond.instanceMethod yX5_mostFrom, Cond.selects RX5 yX5_mostFrom yX5_mostFrom, Cond.code yX5_mostFrom cX5_mostFrom 3 (some .int), Cond.instanceMethod yX2_letDownOf, Cond.selects RX2 yX2_letDownOf yX2_letDownOf, Cond.code yX2_letDownOf cX2_letDownOf 3 (some .int), Cond.methodLink RX2 66 Lib.Math.min.name, Cond.static Lib.Math.min.name, Cond.code Lib.Math.min.name Lib.Math.min.code 2 (some .int), Cond.methodLink RX5 80 yX5_mostWith, Cond.instanceMethod yX5_mostWith, Cond.selects RX5 yX5_mostWith yX5_mostWith, Cond.code yX5_mostWith cX5_mostWith 4 (some .int), Cond.methodLink RX5 61 yX5_solveHour, Cond.instanceMethod yX5_solveHour, Cond.selects RX5 yX5_solveHour yX5_solveHour, Cond.code yX5_solveHour cX5_solveHour 6 none, Cond.methodLink RX5 87 Lib.Math.min.name, Cond.methodLink RX5 104 Lib.Math.max.name, Cond.static yX6_isHour, Cond.initialized RX6]
def wsX6_best_r4 : List Cond := [Cond.code yX6_isHour cX6_isHour 1 (some .boolean), Cond.instanceMethod yX2_inflowOf, Cond.selects RX2 yX2_inflowOf yX2_inflowOf, Cond.code yX2_inflowOf cX2_inflowOf 2 (some .int), Cond.methodLink RX5 98 yX5_mostByPumping, Cond.instanceMethod yX5_mostByPumping, Cond.selects RX5 yX5_mostByPumping yX5_mostByPumping, Cond.code yX5_mostByPumping cX5_mostByPumping 7 (some .int), Cond.methodLink RX5 101 yX5_mostByLettingDown, Cond.instanceMethod yX5_mostByLettingDown, Cond.selects RX5 yX5_mostByLettingDown yX5_mostByLettingDown, Cond.code yX5_mostByLettingDown cX5_mostByLettingDown 7 (some .int), Cond.methodLink RX5 64 yX5_choosePlan, Cond.instanceMethod yX5_choosePlan, Cond.selects RX5 yX5_choosePlan yX5_choosePlan, Cond.code yX5_choosePlan cX5_choosePlan 3 none, Cond.fieldLink RX5 23 "LakePlant$Search" "found" "Z", Cond.fieldLink RX5 20 "LakePlant$Search" "plan" "[I", Cond.methodLink RX5 107 yX5_leastWithTheMost, Cond.instanceMethod yX5_leastWithTheMost, Cond.selects RX5 yX5_leastWithTheMost yX5_leastWithTheMost, Cond.code yX5_leastWithTheMost cX5_leastWithTheMost 8 (some .int), Cond.static yX2_pumpedBy, Cond.code yX2_pumpedBy cX2_pumpedBy 1 (some .int)]
def wsX6_best_r5 : List Cond := [Cond.instanceMethod yX2_filledLevel, Cond.selects RX2 yX2_filledLevel yX2_filledLevel, Cond.code yX2_filledLevel cX2_filledLevel 4 (some .int), Cond.methodLink RX2 58 yX2_lossOf, Cond.methodLink RX2 30 yX2_inflowOf, Cond.instanceMethod yX2_wantedBy, Cond.selects RX2 yX2_wantedBy yX2_wantedBy, Cond.code yX2_wantedBy cX2_wantedBy 2 (some .int), Cond.instanceMethod yX2_levelBehind, Cond.selects RX2 yX2_levelBehind yX2_levelBehind, Cond.code yX2_levelBehind cX2_levelBehind 6 (some .int), Cond.methodLink RX2 69 yX2_pumpedBy, Cond.methodLink RX2 72 yX2_filledLevel, Cond.methodLink RX2 76 yX2_wantedBy, Cond.methodLink RX2 79 yX2_letDownOf, Cond.methodLink RX2 82 yX2_spilledOf]
def wsX6_best : List Cond := .code yX6_best cX6_best 2 (some .int) :: ((wsX6_best_r1 ++ (wsX6_best_r2 ++ (wsX6_best_r3 ++ (wsX6_best_r4 ++ wsX6_best_r5)))) ++ wsX60 ++ wsX50 ++ wsX20)
def wsX6_bestPlan_r1 : List Cond := [Cond.fieldLink RX6 28 "LakePlant" "search" "LLakePlant$Search;", Cond.methodLink RX6 95 yX6_isHour, Cond.static yX6_isHour, Cond.initialized RX6, Cond.code yX6_isHour cX6_isHour 1 (some .boolean), Cond.instanceMethod yX5_solve, Cond.initialized RX5, Cond.selects RX5 yX5_solve yX5_solve, Cond.code yX5_solve cX5_solve 2 none, Cond.fieldLink RX5 27 "LakePlant$Search" "solvedVersion" "I", Cond.fieldLink RX5 40 "LakePlant$Search" "lake" "LLakePlant$Lake;", Cond.fieldLink RX5 11 "LakePlant$Search" "most" "[[I", Cond.constant RX5 53 (-1000000000), Cond.fieldLink RX5 16 "LakePlant$Search" "gained" "[I", Cond.instanceMethod yX2_settingOf, Cond.initialized RX2, Cond.selects RX2 yX2_settingOf yX2_settingOf, Cond.code yX2_settingOf cX2_settingOf 2 (some .int), Cond.fieldLink RX2 11 "LakePlant$Lake" "cells" "[I", Cond.instanceMethod yX2_lossOf, Cond.selects RX2 yX2_lossOf yX2_lossOf, Cond.code yX2_lossOf cX2_lossOf 2 (some .int), Cond.methodLink RX5 57 yX5_lookAt, Cond.instanceMethod yX5_lookAt]
def wsX6_bestPlan_r2 : List Cond := [Cond.selects RX5 yX5_lookAt yX5_lookAt, Cond.code yX5_lookAt cX5_lookAt 4 none, Cond.fieldLink RX5 31 "LakePlant$Search" "earned" "[I", Cond.fieldLink RX5 34 "LakePlant$Search" "ahead" "[I", Cond.fieldLink RX5 37 "LakePlant$Search" "idle" "[I", Cond.instanceMethod yX2_earnedBy, Cond.selects RX2 yX2_earnedBy yX2_earnedBy, Cond.code yX2_earnedBy cX2_earnedBy 6 (some .int), Cond.methodLink RX2 85 yX2_priceOf, Cond.instanceMethod yX2_priceOf, Cond.selects RX2 yX2_priceOf yX2_priceOf, Cond.code yX2_priceOf cX2_priceOf 2 (some .int), Cond.methodLink RX2 26 yX2_contracts, Cond.instanceMethod yX2_contracts, Cond.selects RX2 yX2_contracts yX2_contracts, Cond.code yX2_contracts cX2_contracts 1 (some .int), Cond.methodLink RX2 88 yX2_contractPart, Cond.instanceMethod yX2_contractPart, Cond.selects RX2 yX2_contractPart yX2_contractPart, Cond.code yX2_contractPart cX2_contractPart 4 (some .int), Cond.instanceMethod yX2_spilledOf, Cond.selects RX2 yX2_spilledOf yX2_spilledOf, Cond.code yX2_spilledOf cX2_spilledOf 2 (some .int), Cond.methodLink RX2 61 Lib.Math.max.name]
def wsX6_bestPlan_r3 : List Cond := [Cond.static Lib.Math.max.name, Cond.initialized "java/lang/Math", Cond.code Lib.Math.max.name Lib.Math.max.code 2 (some .int), Cond.methodLink RX5 74 yX5_mostFrom, Cond.instanceMethod yX5_mostFrom, Cond.selects RX5 yX5_mostFrom yX5_mostFrom, Cond.code yX5_mostFrom cX5_mostFrom 3 (some .int), Cond.instanceMethod yX2_letDownOf, Cond.selects RX2 yX2_letDownOf yX2_letDownOf, Cond.code yX2_letDownOf cX2_letDownOf 3 (some .int), Cond.methodLink RX2 66 Lib.Math.min.name, Cond.static Lib.Math.min.name, Cond.code Lib.Math.min.name Lib.Math.min.code 2 (some .int), Cond.methodLink RX5 80 yX5_mostWith, Cond.instanceMethod yX5_mostWith, Cond.selects RX5 yX5_mostWith yX5_mostWith, Cond.code yX5_mostWith cX5_mostWith 4 (some .int), Cond.methodLink RX5 61 yX5_solveHour, Cond.instanceMethod yX5_solveHour, Cond.selects RX5 yX5_solveHour yX5_solveHour, Cond.code yX5_solveHour cX5_solveHour 6 none, Cond.methodLink RX5 87 Lib.Math.min.name, Cond.methodLink RX5 104 Lib.Math.max.name, Cond.instanceMethod yX2_inflowOf]
def wsX6_bestPlan_r4 : List Cond := [Cond.selects RX2 yX2_inflowOf yX2_inflowOf, Cond.code yX2_inflowOf cX2_inflowOf 2 (some .int), Cond.methodLink RX5 98 yX5_mostByPumping, Cond.instanceMethod yX5_mostByPumping, Cond.selects RX5 yX5_mostByPumping yX5_mostByPumping, Cond.code yX5_mostByPumping cX5_mostByPumping 7 (some .int), Cond.methodLink RX5 101 yX5_mostByLettingDown, Cond.instanceMethod yX5_mostByLettingDown, Cond.selects RX5 yX5_mostByLettingDown yX5_mostByLettingDown, Cond.code yX5_mostByLettingDown cX5_mostByLettingDown 7 (some .int), Cond.methodLink RX5 64 yX5_choosePlan, Cond.instanceMethod yX5_choosePlan, Cond.selects RX5 yX5_choosePlan yX5_choosePlan, Cond.code yX5_choosePlan cX5_choosePlan 3 none, Cond.fieldLink RX5 23 "LakePlant$Search" "found" "Z", Cond.fieldLink RX5 20 "LakePlant$Search" "plan" "[I", Cond.methodLink RX5 107 yX5_leastWithTheMost, Cond.instanceMethod yX5_leastWithTheMost, Cond.selects RX5 yX5_leastWithTheMost yX5_leastWithTheMost, Cond.code yX5_leastWithTheMost cX5_leastWithTheMost 8 (some .int), Cond.static yX2_pumpedBy, Cond.code yX2_pumpedBy cX2_pumpedBy 1 (some .int), Cond.instanceMethod yX2_filledLevel, Cond.selects RX2 yX2_filledLevel yX2_filledLevel]
def wsX6_bestPlan_r5 : List Cond := [Cond.code yX2_filledLevel cX2_filledLevel 4 (some .int), Cond.methodLink RX2 58 yX2_lossOf, Cond.methodLink RX2 30 yX2_inflowOf, Cond.instanceMethod yX2_wantedBy, Cond.selects RX2 yX2_wantedBy yX2_wantedBy, Cond.code yX2_wantedBy cX2_wantedBy 2 (some .int), Cond.instanceMethod yX2_levelBehind, Cond.selects RX2 yX2_levelBehind yX2_levelBehind, Cond.code yX2_levelBehind cX2_levelBehind 6 (some .int), Cond.methodLink RX2 69 yX2_pumpedBy, Cond.methodLink RX2 72 yX2_filledLevel, Cond.methodLink RX2 76 yX2_wantedBy, Cond.methodLink RX2 79 yX2_letDownOf, Cond.methodLink RX2 82 yX2_spilledOf]
def wsX6_bestPlan : List Cond := .code yX6_bestPlan cX6_bestPlan 2 (some .int) :: ((wsX6_bestPlan_r1 ++ (wsX6_bestPlan_r2 ++ (wsX6_bestPlan_r3 ++ (wsX6_bestPlan_r4 ++ wsX6_bestPlan_r5)))) ++ wsX60 ++ wsX50 ++ wsX20)
def wsX6_worth_r1 : List Cond := [Cond.fieldLink RX6 10 "LakePlant" "lake" "LLakePlant$Lake;", Cond.fieldLink RX6 28 "LakePlant" "search" "LLakePlant$Search;", Cond.constant RX6 185 (-1000000000), Cond.constant RX6 186 (10000000), Cond.instanceMethod yX2_settingOf, Cond.initialized RX2, Cond.selects RX2 yX2_settingOf yX2_settingOf, Cond.code yX2_settingOf cX2_settingOf 2 (some .int), Cond.fieldLink RX2 11 "LakePlant$Lake" "cells" "[I", Cond.instanceMethod yX5_solve, Cond.initialized RX5, Cond.selects RX5 yX5_solve yX5_solve, Cond.code yX5_solve cX5_solve 2 none, Cond.fieldLink RX5 27 "LakePlant$Search" "solvedVersion" "I", Cond.fieldLink RX5 40 "LakePlant$Search" "lake" "LLakePlant$Lake;", Cond.fieldLink RX5 11 "LakePlant$Search" "most" "[[I", Cond.constant RX5 53 (-1000000000), Cond.fieldLink RX5 16 "LakePlant$Search" "gained" "[I", Cond.instanceMethod yX2_lossOf, Cond.selects RX2 yX2_lossOf yX2_lossOf, Cond.code yX2_lossOf cX2_lossOf 2 (some .int), Cond.methodLink RX5 57 yX5_lookAt, Cond.instanceMethod yX5_lookAt, Cond.selects RX5 yX5_lookAt yX5_lookAt]
def wsX6_worth_r2 : List Cond := [Cond.code yX5_lookAt cX5_lookAt 4 none, Cond.fieldLink RX5 31 "LakePlant$Search" "earned" "[I", Cond.fieldLink RX5 34 "LakePlant$Search" "ahead" "[I", Cond.fieldLink RX5 37 "LakePlant$Search" "idle" "[I", Cond.instanceMethod yX2_earnedBy, Cond.selects RX2 yX2_earnedBy yX2_earnedBy, Cond.code yX2_earnedBy cX2_earnedBy 6 (some .int), Cond.methodLink RX2 85 yX2_priceOf, Cond.instanceMethod yX2_priceOf, Cond.selects RX2 yX2_priceOf yX2_priceOf, Cond.code yX2_priceOf cX2_priceOf 2 (some .int), Cond.methodLink RX2 26 yX2_contracts, Cond.instanceMethod yX2_contracts, Cond.selects RX2 yX2_contracts yX2_contracts, Cond.code yX2_contracts cX2_contracts 1 (some .int), Cond.methodLink RX2 88 yX2_contractPart, Cond.instanceMethod yX2_contractPart, Cond.selects RX2 yX2_contractPart yX2_contractPart, Cond.code yX2_contractPart cX2_contractPart 4 (some .int), Cond.instanceMethod yX2_spilledOf, Cond.selects RX2 yX2_spilledOf yX2_spilledOf, Cond.code yX2_spilledOf cX2_spilledOf 2 (some .int), Cond.methodLink RX2 61 Lib.Math.max.name, Cond.static Lib.Math.max.name]
def wsX6_worth_r3 : List Cond := [Cond.initialized "java/lang/Math", Cond.code Lib.Math.max.name Lib.Math.max.code 2 (some .int), Cond.methodLink RX5 74 yX5_mostFrom, Cond.instanceMethod yX5_mostFrom, Cond.selects RX5 yX5_mostFrom yX5_mostFrom, Cond.code yX5_mostFrom cX5_mostFrom 3 (some .int), Cond.instanceMethod yX2_letDownOf, Cond.selects RX2 yX2_letDownOf yX2_letDownOf, Cond.code yX2_letDownOf cX2_letDownOf 3 (some .int), Cond.methodLink RX2 66 Lib.Math.min.name, Cond.static Lib.Math.min.name, Cond.code Lib.Math.min.name Lib.Math.min.code 2 (some .int), Cond.methodLink RX5 80 yX5_mostWith, Cond.instanceMethod yX5_mostWith, Cond.selects RX5 yX5_mostWith yX5_mostWith, Cond.code yX5_mostWith cX5_mostWith 4 (some .int), Cond.methodLink RX5 61 yX5_solveHour, Cond.instanceMethod yX5_solveHour, Cond.selects RX5 yX5_solveHour yX5_solveHour, Cond.code yX5_solveHour cX5_solveHour 6 none, Cond.methodLink RX5 87 Lib.Math.min.name, Cond.methodLink RX5 104 Lib.Math.max.name, Cond.static yX6_isHour, Cond.initialized RX6]
def wsX6_worth_r4 : List Cond := [Cond.code yX6_isHour cX6_isHour 1 (some .boolean), Cond.instanceMethod yX2_inflowOf, Cond.selects RX2 yX2_inflowOf yX2_inflowOf, Cond.code yX2_inflowOf cX2_inflowOf 2 (some .int), Cond.methodLink RX5 98 yX5_mostByPumping, Cond.instanceMethod yX5_mostByPumping, Cond.selects RX5 yX5_mostByPumping yX5_mostByPumping, Cond.code yX5_mostByPumping cX5_mostByPumping 7 (some .int), Cond.methodLink RX5 101 yX5_mostByLettingDown, Cond.instanceMethod yX5_mostByLettingDown, Cond.selects RX5 yX5_mostByLettingDown yX5_mostByLettingDown, Cond.code yX5_mostByLettingDown cX5_mostByLettingDown 7 (some .int), Cond.methodLink RX5 64 yX5_choosePlan, Cond.instanceMethod yX5_choosePlan, Cond.selects RX5 yX5_choosePlan yX5_choosePlan, Cond.code yX5_choosePlan cX5_choosePlan 3 none, Cond.fieldLink RX5 23 "LakePlant$Search" "found" "Z", Cond.fieldLink RX5 20 "LakePlant$Search" "plan" "[I", Cond.methodLink RX5 107 yX5_leastWithTheMost, Cond.instanceMethod yX5_leastWithTheMost, Cond.selects RX5 yX5_leastWithTheMost yX5_leastWithTheMost, Cond.code yX5_leastWithTheMost cX5_leastWithTheMost 8 (some .int), Cond.static yX2_pumpedBy, Cond.code yX2_pumpedBy cX2_pumpedBy 1 (some .int)]
def wsX6_worth_r5 : List Cond := [Cond.instanceMethod yX2_filledLevel, Cond.selects RX2 yX2_filledLevel yX2_filledLevel, Cond.code yX2_filledLevel cX2_filledLevel 4 (some .int), Cond.methodLink RX2 58 yX2_lossOf, Cond.methodLink RX2 30 yX2_inflowOf, Cond.instanceMethod yX2_wantedBy, Cond.selects RX2 yX2_wantedBy yX2_wantedBy, Cond.code yX2_wantedBy cX2_wantedBy 2 (some .int), Cond.instanceMethod yX2_levelBehind, Cond.selects RX2 yX2_levelBehind yX2_levelBehind, Cond.code yX2_levelBehind cX2_levelBehind 6 (some .int), Cond.methodLink RX2 69 yX2_pumpedBy, Cond.methodLink RX2 72 yX2_filledLevel, Cond.methodLink RX2 76 yX2_wantedBy, Cond.methodLink RX2 79 yX2_letDownOf, Cond.methodLink RX2 82 yX2_spilledOf]
def wsX6_worth : List Cond := .code yX6_worth cX6_worth 5 (some .int) :: ((wsX6_worth_r1 ++ (wsX6_worth_r2 ++ (wsX6_worth_r3 ++ (wsX6_worth_r4 ++ wsX6_worth_r5)))) ++ wsX60 ++ wsX20 ++ wsX50)
def wsX6_highest_r1 : List Cond := [Cond.fieldLink RX6 10 "LakePlant" "lake" "LLakePlant$Lake;", Cond.instanceMethod yX2_highestInTheEnd, Cond.initialized RX2, Cond.selects RX2 yX2_highestInTheEnd yX2_highestInTheEnd, Cond.code yX2_highestInTheEnd cX2_highestInTheEnd 3 (some .int), Cond.fieldLink RX2 11 "LakePlant$Lake" "cells" "[I", Cond.methodLink RX2 91 yX2_levelBehind, Cond.instanceMethod yX2_levelBehind, Cond.selects RX2 yX2_levelBehind yX2_levelBehind, Cond.code yX2_levelBehind cX2_levelBehind 6 (some .int), Cond.methodLink RX2 69 yX2_pumpedBy, Cond.static yX2_pumpedBy, Cond.code yX2_pumpedBy cX2_pumpedBy 1 (some .int), Cond.methodLink RX2 61 Lib.Math.max.name, Cond.static Lib.Math.max.name, Cond.initialized "java/lang/Math", Cond.code Lib.Math.max.name Lib.Math.max.code 2 (some .int), Cond.methodLink RX2 72 yX2_filledLevel, Cond.instanceMethod yX2_filledLevel, Cond.selects RX2 yX2_filledLevel yX2_filledLevel, Cond.code yX2_filledLevel cX2_filledLevel 4 (some .int), Cond.methodLink RX2 58 yX2_lossOf, Cond.instanceMethod yX2_lossOf, Cond.selects RX2 yX2_lossOf yX2_lossOf]
def wsX6_highest_r2 : List Cond := [Cond.code yX2_lossOf cX2_lossOf 2 (some .int), Cond.methodLink RX2 30 yX2_inflowOf, Cond.instanceMethod yX2_inflowOf, Cond.selects RX2 yX2_inflowOf yX2_inflowOf, Cond.code yX2_inflowOf cX2_inflowOf 2 (some .int), Cond.methodLink RX2 76 yX2_wantedBy, Cond.instanceMethod yX2_wantedBy, Cond.selects RX2 yX2_wantedBy yX2_wantedBy, Cond.code yX2_wantedBy cX2_wantedBy 2 (some .int), Cond.methodLink RX2 79 yX2_letDownOf, Cond.instanceMethod yX2_letDownOf, Cond.selects RX2 yX2_letDownOf yX2_letDownOf, Cond.code yX2_letDownOf cX2_letDownOf 3 (some .int), Cond.methodLink RX2 66 Lib.Math.min.name, Cond.static Lib.Math.min.name, Cond.code Lib.Math.min.name Lib.Math.min.code 2 (some .int), Cond.methodLink RX2 82 yX2_spilledOf, Cond.instanceMethod yX2_spilledOf, Cond.selects RX2 yX2_spilledOf yX2_spilledOf, Cond.code yX2_spilledOf cX2_spilledOf 2 (some .int)]
def wsX6_highest : List Cond := .code yX6_highest cX6_highest 1 (some .int) :: ((wsX6_highest_r1 ++ wsX6_highest_r2) ++ wsX60 ++ wsX20)
def wsX6_undo_r1 : List Cond := [Cond.fieldLink RX6 51 "LakePlant" "history" "LLakePlant$History;", Cond.fieldLink RX6 10 "LakePlant" "lake" "LLakePlant$Lake;", Cond.instanceMethod yX1_takeBack, Cond.initialized RX1, Cond.selects RX1 yX1_takeBack yX1_takeBack, Cond.code yX1_takeBack cX1_takeBack 2 (some .int), Cond.fieldLink RX1 22 "LakePlant$History" "length" "I", Cond.fieldLink RX1 18 "LakePlant$History" "aside" "I", Cond.fieldLink RX1 15 "LakePlant$History" "states" "[[I", Cond.instanceMethod yX2_copyFrom, Cond.initialized RX2, Cond.selects RX2 yX2_copyFrom yX2_copyFrom, Cond.code yX2_copyFrom cX2_copyFrom 2 none, Cond.fieldLink RX2 11 "LakePlant$Lake" "cells" "[I", Cond.fieldLink RX2 15 "LakePlant$Lake" "version" "I", Cond.static yX6_copyRow, Cond.initialized RX6, Cond.code yX6_copyRow cX6_copyRow 2 none, Cond.methodLink RX6 257 Lib.Math.min.name, Cond.static Lib.Math.min.name, Cond.initialized "java/lang/Math", Cond.code Lib.Math.min.name Lib.Math.min.code 2 (some .int), Cond.methodLink RX6 262 arraycopyName, Cond.native arraycopyName]
def wsX6_undo_r2 : List Cond := [Cond.static arraycopyName, Cond.initialized "java/lang/System"]
def wsX6_undo : List Cond := .code yX6_undo cX6_undo 1 (some .int) :: ((wsX6_undo_r1 ++ wsX6_undo_r2) ++ wsX60 ++ wsX10 ++ wsX20)
def wsJ9_max_7cf53 : List Cond := .code yJ9_max_7cf53 cJ9_max_7cf53 2 (some .int) :: ([])
def wsJ9_min_7cf53 : List Cond := .code yJ9_min_7cf53 cJ9_min_7cf53 2 (some .int) :: ([])
set_option maxRecDepth 20000 in
theorem ggX0_follow_X2_settingOf : GoodIn wsX0_follow wsX2_settingOf := goodIn_r _ [8, 9, 86, 87] (by decide +kernel) (by decide +kernel)
set_option maxRecDepth 20000 in
theorem gX0_follow_X2_settingOf_n40 : GoodIn wsX0_follow (wsX2_settingOf) := ggX0_follow_X2_settingOf
set_option maxRecDepth 20000 in
theorem ggX0_follow_X0_followHour : GoodIn wsX0_follow wsX0_followHour := goodIn_r _ [14, 1, 15, 16, 17, 4, 18, 19, 2, 20, 21, 22, 23, 6, 24, 25, 9, 26, 27, 28, 29, 30, 31, 32, 33, 34, 35, 36, 37, 38, 39, 40, 41, 42, 43, 44, 45, 46, 47, 48, 49, 50, 51, 52, 53, 54, 55, 56, 57, 58, 59, 60, 61, 62, 63, 64, 65, 66, 67, 68, 69, 70, 71, 72, 13, 73, 5, 7, 8, 74, 75, 76, 77, 78, 79, 80, 81, 82, 83, 84, 85, 86, 87] (by decide +kernel) (by decide +kernel)
set_option maxRecDepth 20000 in
theorem gX0_follow_X0_followHour : GoodIn wsX0_follow (wsV RX0 46 RX0 yX0_followHour wsX0_followHour) := goodIn_app (goodIn_of _ (by decide +kernel)) ggX0_follow_X0_followHour
set_option maxRecDepth 20000 in
theorem ggX0_followHour_X6_isHour : GoodIn wsX0_followHour wsX6_isHour := goodIn_r _ [11] (by decide +kernel) (by decide +kernel)
set_option maxRecDepth 20000 in
theorem gX0_followHour_X6_isHour_n50 : GoodIn wsX0_followHour (wsX6_isHour) := ggX0_followHour_X6_isHour
set_option maxRecDepth 20000 in
theorem ggX0_followHour_X2_planOf : GoodIn wsX0_followHour wsX2_planOf := goodIn_r _ [15, 16, 81, 82] (by decide +kernel) (by decide +kernel)
set_option maxRecDepth 20000 in
theorem gX0_followHour_X2_planOf_n54 : GoodIn wsX0_followHour (wsX2_planOf) := ggX0_followHour_X2_planOf
set_option maxRecDepth 20000 in
theorem ggX0_followHour_X2_pumpedBy : GoodIn wsX0_followHour wsX2_pumpedBy := goodIn_r _ [18, 19, 20, 21, 22] (by decide +kernel) (by decide +kernel)
set_option maxRecDepth 20000 in
theorem gX0_followHour_X2_pumpedBy_n57 : GoodIn wsX0_followHour (wsX2_pumpedBy) := ggX0_followHour_X2_pumpedBy
set_option maxRecDepth 20000 in
theorem ggX0_followHour_X2_filledLevel : GoodIn wsX0_followHour wsX2_filledLevel := goodIn_r _ [25, 26, 27, 28, 13, 29, 16, 30, 31, 32, 33, 81, 82] (by decide +kernel) (by decide +kernel)
set_option maxRecDepth 20000 in
theorem gX0_followHour_X2_filledLevel_n60 : GoodIn wsX0_followHour (wsX2_filledLevel) := ggX0_followHour_X2_filledLevel
set_option maxRecDepth 20000 in
theorem ggX0_followHour_X2_wantedBy : GoodIn wsX0_followHour wsX2_wantedBy := goodIn_r _ [36, 16, 19, 20, 21, 22, 81, 82] (by decide +kernel) (by decide +kernel)
set_option maxRecDepth 20000 in
theorem gX0_followHour_X2_wantedBy_n64 : GoodIn wsX0_followHour (wsX2_wantedBy) := ggX0_followHour_X2_wantedBy
set_option maxRecDepth 20000 in
theorem ggX0_followHour_X2_letDownOf : GoodIn wsX0_followHour wsX2_letDownOf := goodIn_r _ [39, 16, 40, 41, 21, 42, 19, 20, 22, 81, 82] (by decide +kernel) (by decide +kernel)
set_option maxRecDepth 20000 in
theorem gX0_followHour_X2_letDownOf_n67 : GoodIn wsX0_followHour (wsX2_letDownOf) := ggX0_followHour_X2_letDownOf
set_option maxRecDepth 20000 in
theorem ggX0_followHour_X2_lossOf : GoodIn wsX0_followHour wsX2_lossOf := goodIn_r _ [29, 16, 81, 82] (by decide +kernel) (by decide +kernel)
set_option maxRecDepth 20000 in
theorem gX0_followHour_X2_lossOf_n70 : GoodIn wsX0_followHour (wsX2_lossOf) := ggX0_followHour_X2_lossOf
set_option maxRecDepth 20000 in
theorem ggX0_followHour_X2_spilledOf : GoodIn wsX0_followHour wsX2_spilledOf := goodIn_r _ [45, 16, 19, 20, 21, 22, 81, 82] (by decide +kernel) (by decide +kernel)
set_option maxRecDepth 20000 in
theorem gX0_followHour_X2_spilledOf_n73 : GoodIn wsX0_followHour (wsX2_spilledOf) := ggX0_followHour_X2_spilledOf
set_option maxRecDepth 20000 in
theorem ggX0_followHour_X2_earnedBy : GoodIn wsX0_followHour wsX2_earnedBy := goodIn_r _ [48, 16, 49, 50, 51, 13, 52, 53, 54, 55, 56, 57, 58, 59, 60, 81, 82] (by decide +kernel) (by decide +kernel)
set_option maxRecDepth 20000 in
theorem gX0_followHour_X2_earnedBy_n76 : GoodIn wsX0_followHour (wsX2_earnedBy) := ggX0_followHour_X2_earnedBy
set_option maxRecDepth 20000 in
theorem ggX0_followHour_X2_priceOf : GoodIn wsX0_followHour wsX2_priceOf := goodIn_r _ [52, 16, 81, 82] (by decide +kernel) (by decide +kernel)
set_option maxRecDepth 20000 in
theorem gX0_followHour_X2_priceOf_n79 : GoodIn wsX0_followHour (wsX2_priceOf) := ggX0_followHour_X2_priceOf
set_option maxRecDepth 20000 in
theorem ggX0_followHour_X0_troubleOf : GoodIn wsX0_followHour wsX0_troubleOf := goodIn_r _ [65, 1, 66, 13, 67, 68, 16, 69, 70, 71, 53, 54, 55, 56, 57, 58, 59, 60, 72, 73, 74, 75, 76, 77, 78, 79, 80, 81, 82] (by decide +kernel) (by decide +kernel)
set_option maxRecDepth 20000 in
theorem gX0_followHour_X0_troubleOf : GoodIn wsX0_followHour (wsV RX0 82 RX0 yX0_troubleOf wsX0_troubleOf) := goodIn_app (goodIn_of _ (by decide +kernel)) ggX0_followHour_X0_troubleOf
set_option maxRecDepth 20000 in
theorem ggX0_troubleOf_X2_settingOf : GoodIn wsX0_troubleOf wsX2_settingOf := goodIn_r _ [5, 6, 27, 28] (by decide +kernel) (by decide +kernel)
set_option maxRecDepth 20000 in
theorem gX0_troubleOf_X2_settingOf_n40 : GoodIn wsX0_troubleOf (wsX2_settingOf) := ggX0_troubleOf_X2_settingOf
set_option maxRecDepth 20000 in
theorem ggX0_troubleOf_X2_missedIn : GoodIn wsX0_troubleOf wsX2_missedIn := goodIn_r _ [9, 10, 11, 12, 3, 13, 6, 14, 15, 16, 17, 27, 28] (by decide +kernel) (by decide +kernel)
set_option maxRecDepth 20000 in
theorem gX0_troubleOf_X2_missedIn_n86 : GoodIn wsX0_troubleOf (wsX2_missedIn) := ggX0_troubleOf_X2_missedIn
set_option maxRecDepth 20000 in
theorem ggX0_hoursWith_X0_setOf : GoodIn wsX0_hoursWith wsX0_setOf := goodIn_r _ [5, 6, 14, 15, 16, 17, 18, 19, 20, 21, 22] (by decide +kernel) (by decide +kernel)
set_option maxRecDepth 20000 in
theorem gX0_hoursWith_X0_setOf : GoodIn wsX0_hoursWith (wsV RX0 89 RX0 yX0_setOf wsX0_setOf) := goodIn_app (goodIn_of _ (by decide +kernel)) ggX0_hoursWith_X0_setOf
set_option maxRecDepth 20000 in
theorem ggX0_hoursWith_J6_bitCount_0f7a4 : GoodIn wsX0_hoursWith wsJ6_bitCount_0f7a4 := goodIn_r _ [10, 11, 12, 13] (by decide +kernel) (by decide +kernel)
set_option maxRecDepth 20000 in
theorem gX0_hoursWith_J6_bitCount_0f7a4 : GoodIn wsX0_hoursWith (va_wsS RX0 92 yJ6_bitCount_0f7a4 wsJ6_bitCount_0f7a4) := goodIn_app (goodIn_of _ (by decide +kernel)) ggX0_hoursWith_J6_bitCount_0f7a4
set_option maxRecDepth 20000 in
theorem ggX0_missedContracts_X2_missedIn : GoodIn wsX0_missedContracts wsX2_missedIn := goodIn_r _ [6, 7, 8, 9, 4, 10, 11, 12, 13, 14, 15, 25, 26] (by decide +kernel) (by decide +kernel)
set_option maxRecDepth 20000 in
theorem gX0_missedContracts_X2_missedIn_n86 : GoodIn wsX0_missedContracts (wsX2_missedIn) := ggX0_missedContracts_X2_missedIn
set_option maxRecDepth 20000 in
theorem ggX1_keepAside_X2_copyTo : GoodIn wsX1_keepAside wsX2_copyTo := goodIn_r _ [6, 7, 8, 9, 10, 11, 12, 13, 14, 15, 16, 17, 18, 22, 23] (by decide +kernel) (by decide +kernel)
set_option maxRecDepth 20000 in
theorem gX1_keepAside_X2_copyTo_n25 : GoodIn wsX1_keepAside (wsX2_copyTo) := ggX1_keepAside_X2_copyTo
set_option maxRecDepth 20000 in
theorem ggX1_takeBack_X2_copyFrom : GoodIn wsX1_takeBack wsX2_copyFrom := goodIn_r _ [7, 8, 9, 10, 11, 12, 13, 14, 15, 16, 17, 18, 19, 20, 24, 25] (by decide +kernel) (by decide +kernel)
set_option maxRecDepth 20000 in
theorem gX1_takeBack_X2_copyFrom_n35 : GoodIn wsX1_takeBack (wsX2_copyFrom) := ggX1_takeBack_X2_copyFrom
set_option maxRecDepth 20000 in
theorem ggX2_init_X6_copyRow : GoodIn wsX2_init wsX6_copyRow := goodIn_r _ [10, 11, 12, 13, 14, 15, 16, 17, 18] (by decide +kernel) (by decide +kernel)
set_option maxRecDepth 20000 in
theorem gX2_init_X6_copyRow_n22 : GoodIn wsX2_init (wsX6_copyRow) := ggX2_init_X6_copyRow
set_option maxRecDepth 20000 in
theorem ggX2_copyTo_X6_copyRow : GoodIn wsX2_copyTo wsX6_copyRow := goodIn_r _ [4, 5, 6, 7, 8, 9, 10, 11, 12] (by decide +kernel) (by decide +kernel)
set_option maxRecDepth 20000 in
theorem gX2_copyTo_X6_copyRow_n22 : GoodIn wsX2_copyTo (wsX6_copyRow) := ggX2_copyTo_X6_copyRow
set_option maxRecDepth 20000 in
theorem ggX2_copyFrom_X6_copyRow : GoodIn wsX2_copyFrom wsX6_copyRow := goodIn_r _ [5, 6, 7, 8, 9, 10, 11, 12, 13] (by decide +kernel) (by decide +kernel)
set_option maxRecDepth 20000 in
theorem gX2_copyFrom_X6_copyRow_n22 : GoodIn wsX2_copyFrom (wsX6_copyRow) := ggX2_copyFrom_X6_copyRow
set_option maxRecDepth 20000 in
theorem ggX2_isContract_X2_contracts : GoodIn wsX2_isContract wsX2_contracts := goodIn_r _ [5, 6, 7, 8] (by decide +kernel) (by decide +kernel)
set_option maxRecDepth 20000 in
theorem gX2_isContract_X2_contracts : GoodIn wsX2_isContract (wsV RX2 26 RX2 yX2_contracts wsX2_contracts) := goodIn_app (goodIn_of _ (by decide +kernel)) ggX2_isContract_X2_contracts
set_option maxRecDepth 20000 in
theorem ggX2_allInflows_X2_inflowOf : GoodIn wsX2_allInflows wsX2_inflowOf := goodIn_r _ [5, 6, 7, 8] (by decide +kernel) (by decide +kernel)
set_option maxRecDepth 20000 in
theorem gX2_allInflows_X2_inflowOf : GoodIn wsX2_allInflows (wsV RX2 30 RX2 yX2_inflowOf wsX2_inflowOf) := goodIn_app (goodIn_of _ (by decide +kernel)) ggX2_allInflows_X2_inflowOf
set_option maxRecDepth 20000 in
theorem ggX2_changeSetting_X2_fitsTheRest : GoodIn wsX2_changeSetting wsX2_fitsTheRest := goodIn_r _ [7, 8, 9, 10, 11, 6, 12, 13, 14, 15, 16, 21, 22] (by decide +kernel) (by decide +kernel)
set_option maxRecDepth 20000 in
theorem gX2_changeSetting_X2_fitsTheRest : GoodIn wsX2_changeSetting (wsV RX2 37 RX2 yX2_fitsTheRest wsX2_fitsTheRest) := goodIn_app (goodIn_of _ (by decide +kernel)) ggX2_changeSetting_X2_fitsTheRest
set_option maxRecDepth 20000 in
theorem ggX2_changeSetting_X2_replaced : GoodIn wsX2_changeSetting wsX2_replaced := goodIn_r _ [20, 8, 21, 22] (by decide +kernel) (by decide +kernel)
set_option maxRecDepth 20000 in
theorem gX2_changeSetting_X2_replaced : GoodIn wsX2_changeSetting (wsV RX2 41 RX2 yX2_replaced wsX2_replaced) := goodIn_app (goodIn_of _ (by decide +kernel)) ggX2_changeSetting_X2_replaced
set_option maxRecDepth 20000 in
theorem ggX2_fitsTheRest_X2_plansAreFrom : GoodIn wsX2_fitsTheRest wsX2_plansAreFrom := goodIn_r _ [6, 7, 8, 9, 5, 10, 1, 11, 12] (by decide +kernel) (by decide +kernel)
set_option maxRecDepth 20000 in
theorem gX2_fitsTheRest_X2_plansAreFrom : GoodIn wsX2_fitsTheRest (wsV RX2 45 RX2 yX2_plansAreFrom wsX2_plansAreFrom) := goodIn_app (goodIn_of _ (by decide +kernel)) ggX2_fitsTheRest_X2_plansAreFrom
set_option maxRecDepth 20000 in
theorem ggX2_plansAreFrom_X2_planOf : GoodIn wsX2_plansAreFrom wsX2_planOf := goodIn_r _ [5, 6, 7, 8] (by decide +kernel) (by decide +kernel)
set_option maxRecDepth 20000 in
theorem gX2_plansAreFrom_X2_planOf : GoodIn wsX2_plansAreFrom (wsV RX2 48 RX2 yX2_planOf wsX2_planOf) := goodIn_app (goodIn_of _ (by decide +kernel)) ggX2_plansAreFrom_X2_planOf
set_option maxRecDepth 20000 in
theorem ggX2_changePrice_X6_isHour : GoodIn wsX2_changePrice wsX6_isHour := goodIn_r _ [4] (by decide +kernel) (by decide +kernel)
set_option maxRecDepth 20000 in
theorem gX2_changePrice_X6_isHour_n51 : GoodIn wsX2_changePrice (wsX6_isHour) := ggX2_changePrice_X6_isHour
set_option maxRecDepth 20000 in
theorem ggX2_changePrice_X2_replaced : GoodIn wsX2_changePrice wsX2_replaced := goodIn_r _ [9, 10, 11, 12] (by decide +kernel) (by decide +kernel)
set_option maxRecDepth 20000 in
theorem gX2_changePrice_X2_replaced : GoodIn wsX2_changePrice (wsV RX2 41 RX2 yX2_replaced wsX2_replaced) := goodIn_app (goodIn_of _ (by decide +kernel)) ggX2_changePrice_X2_replaced
set_option maxRecDepth 20000 in
theorem ggX2_changeInflow_X6_isHour : GoodIn wsX2_changeInflow wsX6_isHour := goodIn_r _ [4] (by decide +kernel) (by decide +kernel)
set_option maxRecDepth 20000 in
theorem gX2_changeInflow_X6_isHour_n51 : GoodIn wsX2_changeInflow (wsX6_isHour) := ggX2_changeInflow_X6_isHour
set_option maxRecDepth 20000 in
theorem ggX2_changeInflow_X2_replaced : GoodIn wsX2_changeInflow wsX2_replaced := goodIn_r _ [9, 10, 11, 12] (by decide +kernel) (by decide +kernel)
set_option maxRecDepth 20000 in
theorem gX2_changeInflow_X2_replaced : GoodIn wsX2_changeInflow (wsV RX2 41 RX2 yX2_replaced wsX2_replaced) := goodIn_app (goodIn_of _ (by decide +kernel)) ggX2_changeInflow_X2_replaced
set_option maxRecDepth 20000 in
theorem ggX2_changePlan_X6_isHour : GoodIn wsX2_changePlan wsX6_isHour := goodIn_r _ [4] (by decide +kernel) (by decide +kernel)
set_option maxRecDepth 20000 in
theorem gX2_changePlan_X6_isHour_n51 : GoodIn wsX2_changePlan (wsX6_isHour) := ggX2_changePlan_X6_isHour
set_option maxRecDepth 20000 in
theorem ggX2_changePlan_X2_replaced : GoodIn wsX2_changePlan wsX2_replaced := goodIn_r _ [9, 1, 10, 11] (by decide +kernel) (by decide +kernel)
set_option maxRecDepth 20000 in
theorem gX2_changePlan_X2_replaced : GoodIn wsX2_changePlan (wsV RX2 41 RX2 yX2_replaced wsX2_replaced) := goodIn_app (goodIn_of _ (by decide +kernel)) ggX2_changePlan_X2_replaced
set_option maxRecDepth 20000 in
theorem ggX2_addContract_X6_isHour : GoodIn wsX2_addContract wsX6_isHour := goodIn_r _ [5] (by decide +kernel) (by decide +kernel)
set_option maxRecDepth 20000 in
theorem gX2_addContract_X6_isHour_n51 : GoodIn wsX2_addContract (wsX6_isHour) := ggX2_addContract_X6_isHour
set_option maxRecDepth 20000 in
theorem ggX2_addContract_X2_contracts : GoodIn wsX2_addContract wsX2_contracts := goodIn_r _ [10, 1, 15, 16] (by decide +kernel) (by decide +kernel)
set_option maxRecDepth 20000 in
theorem gX2_addContract_X2_contracts : GoodIn wsX2_addContract (wsV RX2 26 RX2 yX2_contracts wsX2_contracts) := goodIn_app (goodIn_of _ (by decide +kernel)) ggX2_addContract_X2_contracts
set_option maxRecDepth 20000 in
theorem ggX2_addContract_X2_replaced : GoodIn wsX2_addContract wsX2_replaced := goodIn_r _ [14, 1, 15, 16] (by decide +kernel) (by decide +kernel)
set_option maxRecDepth 20000 in
theorem gX2_addContract_X2_replaced : GoodIn wsX2_addContract (wsV RX2 41 RX2 yX2_replaced wsX2_replaced) := goodIn_app (goodIn_of _ (by decide +kernel)) ggX2_addContract_X2_replaced
set_option maxRecDepth 20000 in
theorem ggX2_removeContract_X2_isContract : GoodIn wsX2_removeContract wsX2_isContract := goodIn_r _ [7, 8, 9, 10, 6, 11, 1, 12, 13] (by decide +kernel) (by decide +kernel)
set_option maxRecDepth 20000 in
theorem gX2_removeContract_X2_isContract : GoodIn wsX2_removeContract (wsV RX2 55 RX2 yX2_isContract wsX2_isContract) := goodIn_app (goodIn_of _ (by decide +kernel)) ggX2_removeContract_X2_isContract
set_option maxRecDepth 20000 in
theorem ggX2_removeContract_X2_contracts : GoodIn wsX2_removeContract wsX2_contracts := goodIn_r _ [11, 1, 12, 13] (by decide +kernel) (by decide +kernel)
set_option maxRecDepth 20000 in
theorem gX2_removeContract_X2_contracts : GoodIn wsX2_removeContract (wsV RX2 26 RX2 yX2_contracts wsX2_contracts) := goodIn_app (goodIn_of _ (by decide +kernel)) ggX2_removeContract_X2_contracts
set_option maxRecDepth 20000 in
theorem ggX2_filledLevel_X2_lossOf : GoodIn wsX2_filledLevel wsX2_lossOf := goodIn_r _ [5, 6, 11, 12] (by decide +kernel) (by decide +kernel)
set_option maxRecDepth 20000 in
theorem gX2_filledLevel_X2_lossOf : GoodIn wsX2_filledLevel (wsV RX2 58 RX2 yX2_lossOf wsX2_lossOf) := goodIn_app (goodIn_of _ (by decide +kernel)) ggX2_filledLevel_X2_lossOf
set_option maxRecDepth 20000 in
theorem ggX2_filledLevel_X2_inflowOf : GoodIn wsX2_filledLevel wsX2_inflowOf := goodIn_r _ [10, 6, 11, 12] (by decide +kernel) (by decide +kernel)
set_option maxRecDepth 20000 in
theorem gX2_filledLevel_X2_inflowOf : GoodIn wsX2_filledLevel (wsV RX2 30 RX2 yX2_inflowOf wsX2_inflowOf) := goodIn_app (goodIn_of _ (by decide +kernel)) ggX2_filledLevel_X2_inflowOf
set_option maxRecDepth 20000 in
theorem ggX2_levelBehind_X2_pumpedBy : GoodIn wsX2_levelBehind wsX2_pumpedBy := goodIn_r _ [4, 5, 6, 7, 8] (by decide +kernel) (by decide +kernel)
set_option maxRecDepth 20000 in
theorem gX2_levelBehind_X2_pumpedBy : GoodIn wsX2_levelBehind (va_wsS RX2 69 yX2_pumpedBy wsX2_pumpedBy) := goodIn_app (goodIn_of _ (by decide +kernel)) ggX2_levelBehind_X2_pumpedBy
set_option maxRecDepth 20000 in
theorem ggX2_levelBehind_X2_filledLevel : GoodIn wsX2_levelBehind wsX2_filledLevel := goodIn_r _ [12, 13, 14, 15, 3, 16, 17, 18, 19, 20, 21, 37, 38] (by decide +kernel) (by decide +kernel)
set_option maxRecDepth 20000 in
theorem gX2_levelBehind_X2_filledLevel : GoodIn wsX2_levelBehind (wsV RX2 72 RX2 yX2_filledLevel wsX2_filledLevel) := goodIn_app (goodIn_of _ (by decide +kernel)) ggX2_levelBehind_X2_filledLevel
set_option maxRecDepth 20000 in
theorem ggX2_levelBehind_X2_wantedBy : GoodIn wsX2_levelBehind wsX2_wantedBy := goodIn_r _ [25, 17, 5, 6, 7, 8, 37, 38] (by decide +kernel) (by decide +kernel)
set_option maxRecDepth 20000 in
theorem gX2_levelBehind_X2_wantedBy : GoodIn wsX2_levelBehind (wsV RX2 76 RX2 yX2_wantedBy wsX2_wantedBy) := goodIn_app (goodIn_of _ (by decide +kernel)) ggX2_levelBehind_X2_wantedBy
set_option maxRecDepth 20000 in
theorem ggX2_levelBehind_X2_letDownOf : GoodIn wsX2_levelBehind wsX2_letDownOf := goodIn_r _ [29, 17, 30, 31, 7, 32, 5, 6, 8, 37, 38] (by decide +kernel) (by decide +kernel)
set_option maxRecDepth 20000 in
theorem gX2_levelBehind_X2_letDownOf : GoodIn wsX2_levelBehind (wsV RX2 79 RX2 yX2_letDownOf wsX2_letDownOf) := goodIn_app (goodIn_of _ (by decide +kernel)) ggX2_levelBehind_X2_letDownOf
set_option maxRecDepth 20000 in
theorem ggX2_levelBehind_X2_spilledOf : GoodIn wsX2_levelBehind wsX2_spilledOf := goodIn_r _ [36, 17, 5, 6, 7, 8, 37, 38] (by decide +kernel) (by decide +kernel)
set_option maxRecDepth 20000 in
theorem gX2_levelBehind_X2_spilledOf : GoodIn wsX2_levelBehind (wsV RX2 82 RX2 yX2_spilledOf wsX2_spilledOf) := goodIn_app (goodIn_of _ (by decide +kernel)) ggX2_levelBehind_X2_spilledOf
set_option maxRecDepth 20000 in
theorem ggX2_earnedBy_X2_priceOf : GoodIn wsX2_earnedBy wsX2_priceOf := goodIn_r _ [6, 1, 15, 16] (by decide +kernel) (by decide +kernel)
set_option maxRecDepth 20000 in
theorem gX2_earnedBy_X2_priceOf : GoodIn wsX2_earnedBy (wsV RX2 85 RX2 yX2_priceOf wsX2_priceOf) := goodIn_app (goodIn_of _ (by decide +kernel)) ggX2_earnedBy_X2_priceOf
set_option maxRecDepth 20000 in
theorem ggX2_earnedBy_X2_contracts : GoodIn wsX2_earnedBy wsX2_contracts := goodIn_r _ [10, 1, 15, 16] (by decide +kernel) (by decide +kernel)
set_option maxRecDepth 20000 in
theorem gX2_earnedBy_X2_contracts : GoodIn wsX2_earnedBy (wsV RX2 26 RX2 yX2_contracts wsX2_contracts) := goodIn_app (goodIn_of _ (by decide +kernel)) ggX2_earnedBy_X2_contracts
set_option maxRecDepth 20000 in
theorem ggX2_earnedBy_X2_contractPart : GoodIn wsX2_earnedBy wsX2_contractPart := goodIn_r _ [14, 1, 15, 16] (by decide +kernel) (by decide +kernel)
set_option maxRecDepth 20000 in
theorem gX2_earnedBy_X2_contractPart : GoodIn wsX2_earnedBy (wsV RX2 88 RX2 yX2_contractPart wsX2_contractPart) := goodIn_app (goodIn_of _ (by decide +kernel)) ggX2_earnedBy_X2_contractPart
set_option maxRecDepth 20000 in
theorem ggX2_missedIn_X2_contracts : GoodIn wsX2_missedIn wsX2_contracts := goodIn_r _ [5, 6, 11, 12] (by decide +kernel) (by decide +kernel)
set_option maxRecDepth 20000 in
theorem gX2_missedIn_X2_contracts : GoodIn wsX2_missedIn (wsV RX2 26 RX2 yX2_contracts wsX2_contracts) := goodIn_app (goodIn_of _ (by decide +kernel)) ggX2_missedIn_X2_contracts
set_option maxRecDepth 20000 in
theorem ggX2_missedIn_X2_contractPart : GoodIn wsX2_missedIn wsX2_contractPart := goodIn_r _ [10, 6, 11, 12] (by decide +kernel) (by decide +kernel)
set_option maxRecDepth 20000 in
theorem gX2_missedIn_X2_contractPart : GoodIn wsX2_missedIn (wsV RX2 88 RX2 yX2_contractPart wsX2_contractPart) := goodIn_app (goodIn_of _ (by decide +kernel)) ggX2_missedIn_X2_contractPart
set_option maxRecDepth 20000 in
theorem ggX2_highestInTheEnd_X2_levelBehind : GoodIn wsX2_highestInTheEnd wsX2_levelBehind := goodIn_r _ [6, 7, 8, 5, 9, 10, 11, 12, 13, 14, 15, 16, 17, 18, 19, 20, 21, 1, 22, 23, 24, 25, 26, 27, 28, 29, 30, 31, 32, 33, 34, 35, 36, 37, 38, 39, 40, 41, 42] (by decide +kernel) (by decide +kernel)
set_option maxRecDepth 20000 in
theorem gX2_highestInTheEnd_X2_levelBehind : GoodIn wsX2_highestInTheEnd (wsV RX2 91 RX2 yX2_levelBehind wsX2_levelBehind) := goodIn_app (goodIn_of _ (by decide +kernel)) ggX2_highestInTheEnd_X2_levelBehind
set_option maxRecDepth 20000 in
theorem ggX5_solve_X2_settingOf : GoodIn wsX5_solve wsX2_settingOf := goodIn_r _ [9, 10, 115, 116] (by decide +kernel) (by decide +kernel)
set_option maxRecDepth 20000 in
theorem gX5_solve_X2_settingOf_n49 : GoodIn wsX5_solve (wsX2_settingOf) := ggX5_solve_X2_settingOf
set_option maxRecDepth 20000 in
theorem ggX5_solve_X2_lossOf : GoodIn wsX5_solve wsX2_lossOf := goodIn_r _ [13, 10, 115, 116] (by decide +kernel) (by decide +kernel)
set_option maxRecDepth 20000 in
theorem gX5_solve_X2_lossOf_n54 : GoodIn wsX5_solve (wsX2_lossOf) := ggX5_solve_X2_lossOf
set_option maxRecDepth 20000 in
theorem ggX5_solve_X5_lookAt : GoodIn wsX5_solve wsX5_lookAt := goodIn_r _ [18, 19, 2, 20, 21, 22, 7, 23, 24, 10, 25, 26, 27, 28, 29, 30, 31, 32, 33, 34, 35, 36, 37, 38, 39, 40, 41, 42, 43, 44, 45, 46, 17, 47, 4, 3, 6, 8, 9, 48, 49, 50, 51, 52, 53, 54, 55, 56, 57, 106, 107, 108, 109, 110, 111, 112, 113, 114, 115, 116] (by decide +kernel) (by decide +kernel)
set_option maxRecDepth 20000 in
theorem gX5_solve_X5_lookAt : GoodIn wsX5_solve (wsV RX5 57 RX5 yX5_lookAt wsX5_lookAt) := goodIn_app (goodIn_of _ (by decide +kernel)) ggX5_solve_X5_lookAt
set_option maxRecDepth 20000 in
theorem ggX5_solve_X5_solveHour : GoodIn wsX5_solve wsX5_solveHour := goodIn_r _ [61, 2, 62, 52, 42, 53, 3, 63, 41, 43, 64, 65, 66, 6, 7, 8, 9, 10, 26, 27, 28, 67, 68, 69, 70, 71, 72, 17, 73, 4, 5, 21, 74, 75, 76, 77, 20, 19, 106, 107, 108, 109, 110, 111, 112, 113, 114, 115, 116] (by decide +kernel) (by decide +kernel)
set_option maxRecDepth 20000 in
theorem gX5_solve_X5_solveHour : GoodIn wsX5_solve (wsV RX5 61 RX5 yX5_solveHour wsX5_solveHour) := goodIn_app (goodIn_of _ (by decide +kernel)) ggX5_solve_X5_solveHour
set_option maxRecDepth 20000 in
theorem ggX5_solve_X5_choosePlan : GoodIn wsX5_solve wsX5_choosePlan := goodIn_r _ [81, 2, 4, 82, 83, 6, 7, 8, 9, 10, 44, 45, 46, 17, 47, 3, 14, 15, 16, 18, 19, 20, 21, 22, 23, 24, 25, 26, 27, 28, 29, 30, 31, 32, 33, 34, 35, 36, 37, 38, 39, 40, 41, 42, 43, 48, 49, 50, 51, 52, 53, 54, 55, 56, 57, 84, 85, 86, 87, 88, 89, 90, 91, 92, 93, 11, 12, 13, 94, 67, 68, 69, 95, 96, 97, 98, 99, 100, 101, 102, 103, 104, 105, 106, 107, 108, 109, 110, 111, 112, 113, 114, 115, 116] (by decide +kernel) (by decide +kernel)
set_option maxRecDepth 20000 in
theorem gX5_solve_X5_choosePlan : GoodIn wsX5_solve (wsV RX5 64 RX5 yX5_choosePlan wsX5_choosePlan) := goodIn_app (goodIn_of _ (by decide +kernel)) ggX5_solve_X5_choosePlan
set_option maxRecDepth 20000 in
theorem ggX5_lookAt_X2_earnedBy : GoodIn wsX5_lookAt wsX2_earnedBy := goodIn_r _ [8, 9, 10, 11, 12, 6, 13, 14, 15, 16, 17, 18, 19, 20, 21, 58, 59] (by decide +kernel) (by decide +kernel)
set_option maxRecDepth 20000 in
theorem gX5_lookAt_X2_earnedBy_n67 : GoodIn wsX5_lookAt (wsX2_earnedBy) := ggX5_lookAt_X2_earnedBy
set_option maxRecDepth 20000 in
theorem ggX5_lookAt_X2_spilledOf : GoodIn wsX5_lookAt wsX2_spilledOf := goodIn_r _ [24, 9, 25, 26, 27, 28, 58, 59] (by decide +kernel) (by decide +kernel)
set_option maxRecDepth 20000 in
theorem gX5_lookAt_X2_spilledOf_n71 : GoodIn wsX5_lookAt (wsX2_spilledOf) := ggX5_lookAt_X2_spilledOf
set_option maxRecDepth 20000 in
theorem ggX5_lookAt_X5_mostFrom : GoodIn wsX5_lookAt wsX5_mostFrom := goodIn_r _ [33, 34, 35, 49, 50, 51, 52, 53, 54, 55, 56, 57] (by decide +kernel) (by decide +kernel)
set_option maxRecDepth 20000 in
theorem gX5_lookAt_X5_mostFrom : GoodIn wsX5_lookAt (wsV RX5 74 RX5 yX5_mostFrom wsX5_mostFrom) := goodIn_app (goodIn_of _ (by decide +kernel)) ggX5_lookAt_X5_mostFrom
set_option maxRecDepth 20000 in
theorem ggX5_lookAt_X2_settingOf : GoodIn wsX5_lookAt wsX2_settingOf := goodIn_r _ [38, 9, 58, 59] (by decide +kernel) (by decide +kernel)
set_option maxRecDepth 20000 in
theorem gX5_lookAt_X2_settingOf_n49 : GoodIn wsX5_lookAt (wsX2_settingOf) := ggX5_lookAt_X2_settingOf
set_option maxRecDepth 20000 in
theorem ggX5_lookAt_X2_letDownOf : GoodIn wsX5_lookAt wsX2_letDownOf := goodIn_r _ [41, 9, 42, 43, 27, 44, 25, 26, 28, 58, 59] (by decide +kernel) (by decide +kernel)
set_option maxRecDepth 20000 in
theorem gX5_lookAt_X2_letDownOf_n77 : GoodIn wsX5_lookAt (wsX2_letDownOf) := ggX5_lookAt_X2_letDownOf
set_option maxRecDepth 20000 in
theorem ggX5_lookAt_X5_mostWith : GoodIn wsX5_lookAt wsX5_mostWith := goodIn_r _ [48, 3, 34, 1, 49, 50, 51, 52, 53, 54, 55, 56, 57] (by decide +kernel) (by decide +kernel)
set_option maxRecDepth 20000 in
theorem gX5_lookAt_X5_mostWith : GoodIn wsX5_lookAt (wsV RX5 80 RX5 yX5_mostWith wsX5_mostWith) := goodIn_app (goodIn_of _ (by decide +kernel)) ggX5_lookAt_X5_mostWith
set_option maxRecDepth 20000 in
theorem ggX5_solveHour_X6_isHour : GoodIn wsX5_solveHour wsX6_isHour := goodIn_r _ [12] (by decide +kernel) (by decide +kernel)
set_option maxRecDepth 20000 in
theorem gX5_solveHour_X6_isHour_n83 : GoodIn wsX5_solveHour (wsX6_isHour) := ggX5_solveHour_X6_isHour
set_option maxRecDepth 20000 in
theorem ggX5_solveHour_X2_settingOf : GoodIn wsX5_solveHour wsX2_settingOf := goodIn_r _ [16, 17, 47, 48] (by decide +kernel) (by decide +kernel)
set_option maxRecDepth 20000 in
theorem gX5_solveHour_X2_settingOf_n49 : GoodIn wsX5_solveHour (wsX2_settingOf) := ggX5_solveHour_X2_settingOf
set_option maxRecDepth 20000 in
theorem ggX5_solveHour_X2_priceOf : GoodIn wsX5_solveHour wsX2_priceOf := goodIn_r _ [20, 17, 47, 48] (by decide +kernel) (by decide +kernel)
set_option maxRecDepth 20000 in
theorem gX5_solveHour_X2_priceOf_n92 : GoodIn wsX5_solveHour (wsX2_priceOf) := ggX5_solveHour_X2_priceOf
set_option maxRecDepth 20000 in
theorem ggX5_solveHour_X2_inflowOf : GoodIn wsX5_solveHour wsX2_inflowOf := goodIn_r _ [23, 17, 47, 48] (by decide +kernel) (by decide +kernel)
set_option maxRecDepth 20000 in
theorem gX5_solveHour_X2_inflowOf_n95 : GoodIn wsX5_solveHour (wsX2_inflowOf) := ggX5_solveHour_X2_inflowOf
set_option maxRecDepth 20000 in
theorem ggX5_solveHour_X5_mostByPumping : GoodIn wsX5_solveHour wsX5_mostByPumping := goodIn_r _ [28, 1, 2, 3, 4, 5, 29, 30, 31, 7, 8, 9, 13, 14, 15, 16, 17, 38, 39, 40, 41, 42, 43, 44, 45, 46, 47, 48] (by decide +kernel) (by decide +kernel)
set_option maxRecDepth 20000 in
theorem gX5_solveHour_X5_mostByPumping : GoodIn wsX5_solveHour (wsV RX5 98 RX5 yX5_mostByPumping wsX5_mostByPumping) := goodIn_app (goodIn_of _ (by decide +kernel)) ggX5_solveHour_X5_mostByPumping
set_option maxRecDepth 20000 in
theorem ggX5_solveHour_X5_mostByLettingDown : GoodIn wsX5_solveHour wsX5_mostByLettingDown := goodIn_r _ [35, 1, 2, 3, 4, 5, 29, 36, 37, 7, 8, 9, 13, 14, 15, 16, 17, 38, 39, 40, 41, 42, 43, 44, 45, 46, 47, 48] (by decide +kernel) (by decide +kernel)
set_option maxRecDepth 20000 in
theorem gX5_solveHour_X5_mostByLettingDown : GoodIn wsX5_solveHour (wsV RX5 101 RX5 yX5_mostByLettingDown wsX5_mostByLettingDown) := goodIn_app (goodIn_of _ (by decide +kernel)) ggX5_solveHour_X5_mostByLettingDown
set_option maxRecDepth 20000 in
theorem ggX5_mostByPumping_X2_settingOf : GoodIn wsX5_mostByPumping wsX2_settingOf := goodIn_r _ [15, 16, 26, 27] (by decide +kernel) (by decide +kernel)
set_option maxRecDepth 20000 in
theorem gX5_mostByPumping_X2_settingOf_n49 : GoodIn wsX5_mostByPumping (wsX2_settingOf) := ggX5_mostByPumping_X2_settingOf
set_option maxRecDepth 20000 in
theorem ggX5_mostByLettingDown_X2_settingOf : GoodIn wsX5_mostByLettingDown wsX2_settingOf := goodIn_r _ [15, 16, 26, 27] (by decide +kernel) (by decide +kernel)
set_option maxRecDepth 20000 in
theorem gX5_mostByLettingDown_X2_settingOf_n49 : GoodIn wsX5_mostByLettingDown (wsX2_settingOf) := ggX5_mostByLettingDown_X2_settingOf
set_option maxRecDepth 20000 in
theorem ggX5_choosePlan_X2_settingOf : GoodIn wsX5_choosePlan wsX2_settingOf := goodIn_r _ [8, 9, 92, 93] (by decide +kernel) (by decide +kernel)
set_option maxRecDepth 20000 in
theorem gX5_choosePlan_X2_settingOf_n49 : GoodIn wsX5_choosePlan (wsX2_settingOf) := ggX5_choosePlan_X2_settingOf
set_option maxRecDepth 20000 in
theorem ggX5_choosePlan_X5_mostFrom : GoodIn wsX5_choosePlan wsX5_mostFrom := goodIn_r _ [14, 2, 15, 83, 84, 85, 86, 87, 88, 89, 90, 91] (by decide +kernel) (by decide +kernel)
set_option maxRecDepth 20000 in
theorem gX5_choosePlan_X5_mostFrom : GoodIn wsX5_choosePlan (wsV RX5 74 RX5 yX5_mostFrom wsX5_mostFrom) := goodIn_app (goodIn_of _ (by decide +kernel)) ggX5_choosePlan_X5_mostFrom
set_option maxRecDepth 20000 in
theorem ggX5_choosePlan_X5_lookAt : GoodIn wsX5_choosePlan wsX5_lookAt := goodIn_r _ [19, 20, 1, 21, 22, 23, 6, 24, 25, 9, 26, 27, 28, 29, 30, 31, 32, 33, 34, 35, 36, 37, 38, 39, 40, 41, 42, 43, 44, 10, 11, 12, 13, 14, 2, 15, 5, 7, 8, 45, 46, 47, 48, 49, 50, 51, 52, 53, 54, 83, 84, 85, 86, 87, 88, 89, 90, 91, 92, 93] (by decide +kernel) (by decide +kernel)
set_option maxRecDepth 20000 in
theorem gX5_choosePlan_X5_lookAt : GoodIn wsX5_choosePlan (wsV RX5 57 RX5 yX5_lookAt wsX5_lookAt) := goodIn_app (goodIn_of _ (by decide +kernel)) ggX5_choosePlan_X5_lookAt
set_option maxRecDepth 20000 in
theorem ggX5_choosePlan_X5_leastWithTheMost : GoodIn wsX5_choosePlan wsX5_leastWithTheMost := goodIn_r _ [58, 1, 2, 10, 11, 12, 13, 14, 15, 5, 6, 7, 8, 9, 59, 60, 41, 42, 43, 44, 61, 62, 63, 64, 65, 66, 67, 68, 69, 70, 71, 72, 73, 74, 45, 46, 47, 48, 49, 50, 51, 52, 53, 54, 21, 20, 27, 28, 29, 83, 84, 85, 86, 87, 88, 89, 90, 91, 92, 93] (by decide +kernel) (by decide +kernel)
set_option maxRecDepth 20000 in
theorem gX5_choosePlan_X5_leastWithTheMost : GoodIn wsX5_choosePlan (wsV RX5 107 RX5 yX5_leastWithTheMost wsX5_leastWithTheMost) := goodIn_app (goodIn_of _ (by decide +kernel)) ggX5_choosePlan_X5_leastWithTheMost
set_option maxRecDepth 20000 in
theorem ggX5_choosePlan_X2_levelBehind : GoodIn wsX5_choosePlan wsX2_levelBehind := goodIn_r _ [77, 78, 59, 6, 60, 41, 42, 43, 44, 79, 61, 62, 63, 64, 65, 66, 67, 9, 68, 69, 70, 71, 80, 72, 73, 74, 81, 45, 46, 47, 48, 49, 50, 82, 38, 39, 40, 92, 93] (by decide +kernel) (by decide +kernel)
set_option maxRecDepth 20000 in
theorem gX5_choosePlan_X2_levelBehind_n110 : GoodIn wsX5_choosePlan (wsX2_levelBehind) := ggX5_choosePlan_X2_levelBehind
set_option maxRecDepth 20000 in
theorem ggX5_leastWithTheMost_X5_mostFrom : GoodIn wsX5_leastWithTheMost wsX5_mostFrom := goodIn_r _ [7, 2, 8, 49, 50, 51, 52, 53, 54, 55, 56, 57] (by decide +kernel) (by decide +kernel)
set_option maxRecDepth 20000 in
theorem gX5_leastWithTheMost_X5_mostFrom : GoodIn wsX5_leastWithTheMost (wsV RX5 74 RX5 yX5_mostFrom wsX5_mostFrom) := goodIn_app (goodIn_of _ (by decide +kernel)) ggX5_leastWithTheMost_X5_mostFrom
set_option maxRecDepth 20000 in
theorem ggX5_leastWithTheMost_X2_settingOf : GoodIn wsX5_leastWithTheMost wsX2_settingOf := goodIn_r _ [12, 13, 58, 59] (by decide +kernel) (by decide +kernel)
set_option maxRecDepth 20000 in
theorem gX5_leastWithTheMost_X2_settingOf_n49 : GoodIn wsX5_leastWithTheMost (wsX2_settingOf) := ggX5_leastWithTheMost_X2_settingOf
set_option maxRecDepth 20000 in
theorem ggX5_leastWithTheMost_X2_pumpedBy : GoodIn wsX5_leastWithTheMost wsX2_pumpedBy := goodIn_r _ [15, 16, 17, 18, 19] (by decide +kernel) (by decide +kernel)
set_option maxRecDepth 20000 in
theorem gX5_leastWithTheMost_X2_pumpedBy_n114 : GoodIn wsX5_leastWithTheMost (wsX2_pumpedBy) := ggX5_leastWithTheMost_X2_pumpedBy
set_option maxRecDepth 20000 in
theorem ggX5_leastWithTheMost_X2_filledLevel : GoodIn wsX5_leastWithTheMost wsX2_filledLevel := goodIn_r _ [22, 23, 24, 25, 10, 26, 13, 27, 28, 29, 30, 58, 59] (by decide +kernel) (by decide +kernel)
set_option maxRecDepth 20000 in
theorem gX5_leastWithTheMost_X2_filledLevel_n117 : GoodIn wsX5_leastWithTheMost (wsX2_filledLevel) := ggX5_leastWithTheMost_X2_filledLevel
set_option maxRecDepth 20000 in
theorem ggX5_leastWithTheMost_X2_wantedBy : GoodIn wsX5_leastWithTheMost wsX2_wantedBy := goodIn_r _ [33, 13, 16, 17, 18, 19, 58, 59] (by decide +kernel) (by decide +kernel)
set_option maxRecDepth 20000 in
theorem gX5_leastWithTheMost_X2_wantedBy_n120 : GoodIn wsX5_leastWithTheMost (wsX2_wantedBy) := ggX5_leastWithTheMost_X2_wantedBy
set_option maxRecDepth 20000 in
theorem ggX5_leastWithTheMost_X2_letDownOf : GoodIn wsX5_leastWithTheMost wsX2_letDownOf := goodIn_r _ [36, 13, 37, 38, 18, 39, 16, 17, 19, 58, 59] (by decide +kernel) (by decide +kernel)
set_option maxRecDepth 20000 in
theorem gX5_leastWithTheMost_X2_letDownOf_n77 : GoodIn wsX5_leastWithTheMost (wsX2_letDownOf) := ggX5_leastWithTheMost_X2_letDownOf
set_option maxRecDepth 20000 in
theorem ggX5_leastWithTheMost_X5_mostWith : GoodIn wsX5_leastWithTheMost wsX5_mostWith := goodIn_r _ [43, 44, 2, 45, 49, 50, 51, 52, 53, 54, 55, 56, 57] (by decide +kernel) (by decide +kernel)
set_option maxRecDepth 20000 in
theorem gX5_leastWithTheMost_X5_mostWith : GoodIn wsX5_leastWithTheMost (wsV RX5 80 RX5 yX5_mostWith wsX5_mostWith) := goodIn_app (goodIn_of _ (by decide +kernel)) ggX5_leastWithTheMost_X5_mostWith
set_option maxRecDepth 20000 in
theorem ggX5_leastWithTheMost_X2_priceOf : GoodIn wsX5_leastWithTheMost wsX2_priceOf := goodIn_r _ [48, 13, 58, 59] (by decide +kernel) (by decide +kernel)
set_option maxRecDepth 20000 in
theorem gX5_leastWithTheMost_X2_priceOf_n92 : GoodIn wsX5_leastWithTheMost (wsX2_priceOf) := ggX5_leastWithTheMost_X2_priceOf
set_option maxRecDepth 20000 in
theorem ggX6_init_X2_init : GoodIn wsX6_init wsX2_init := goodIn_r _ [34, 35, 2, 3, 29, 36, 37, 38, 39, 40, 41, 42, 43, 44, 45, 46, 47, 48, 49, 101, 102] (by decide +kernel) (by decide +kernel)
set_option maxRecDepth 20000 in
theorem gX6_init_X2_init_n9 : GoodIn wsX6_init (wsX2_init) := ggX6_init_X2_init
set_option maxRecDepth 20000 in
theorem ggX6_init_X0_init : GoodIn wsX6_init wsX0_init := goodIn_r _ [51, 52, 2, 3, 29, 53, 54, 55, 56, 57, 58, 59, 60, 61, 111, 112, 113, 114, 115, 116, 117, 118, 119] (by decide +kernel) (by decide +kernel)
set_option maxRecDepth 20000 in
theorem gX6_init_X0_init_n18 : GoodIn wsX6_init (wsX0_init) := ggX6_init_X0_init
set_option maxRecDepth 20000 in
theorem ggX6_init_X5_init : GoodIn wsX6_init wsX5_init := goodIn_r _ [63, 64, 2, 3, 65, 29, 66, 67, 68, 69, 70, 71, 72, 73, 74, 120, 121, 122, 123, 124, 125, 126, 127, 128] (by decide +kernel) (by decide +kernel)
set_option maxRecDepth 20000 in
theorem gX6_init_X5_init_n27 : GoodIn wsX6_init (wsX5_init) := ggX6_init_X5_init
set_option maxRecDepth 20000 in
theorem ggX6_init_X3_init : GoodIn wsX6_init wsX3_init := goodIn_r _ [76, 77, 2, 3, 78, 79, 80, 129, 130] (by decide +kernel) (by decide +kernel)
set_option maxRecDepth 20000 in
theorem gX6_init_X3_init_n34 : GoodIn wsX6_init (wsX3_init) := ggX6_init_X3_init
set_option maxRecDepth 20000 in
theorem ggX6_init_X4_init : GoodIn wsX6_init wsX4_init := goodIn_r _ [82, 83, 2, 3, 84, 85, 86, 87, 88, 89, 90, 91, 92, 93, 131, 132, 133, 134, 135, 136, 137, 138, 139, 140] (by decide +kernel) (by decide +kernel)
set_option maxRecDepth 20000 in
theorem gX6_init_X4_init_n41 : GoodIn wsX6_init (wsX4_init) := ggX6_init_X4_init
set_option maxRecDepth 20000 in
theorem ggX6_init_X1_init : GoodIn wsX6_init wsX1_init := goodIn_r _ [95, 96, 2, 3, 97, 29, 98, 99, 100, 141, 142, 143] (by decide +kernel) (by decide +kernel)
set_option maxRecDepth 20000 in
theorem gX6_init_X1_init_n50 : GoodIn wsX6_init (wsX1_init) := ggX6_init_X1_init
set_option maxRecDepth 20000 in
theorem ggX6_set_X1_keepAside : GoodIn wsX6_set wsX1_keepAside := goodIn_r _ [6, 7, 8, 9, 10, 11, 12, 13, 14, 15, 16, 17, 18, 19, 20, 21, 22, 23, 24, 59, 60, 61, 62, 63] (by decide +kernel) (by decide +kernel)
set_option maxRecDepth 20000 in
theorem gX6_set_X1_keepAside_n64 : GoodIn wsX6_set (wsX1_keepAside) := ggX6_set_X1_keepAside
set_option maxRecDepth 20000 in
theorem ggX6_set_X2_changeSetting : GoodIn wsX6_set wsX2_changeSetting := goodIn_r _ [27, 28, 29, 30, 31, 32, 10, 33, 13, 34, 35, 36, 37, 38, 39, 40, 41, 42, 43, 44, 45, 62, 63] (by decide +kernel) (by decide +kernel)
set_option maxRecDepth 20000 in
theorem gX6_set_X2_changeSetting_n67 : GoodIn wsX6_set (wsX2_changeSetting) := ggX6_set_X2_changeSetting
set_option maxRecDepth 20000 in
theorem ggX6_set_X1_recordUnlessError : GoodIn wsX6_set wsX1_recordUnlessError := goodIn_r _ [48, 7, 49, 50, 18, 19, 20, 59, 60, 61] (by decide +kernel) (by decide +kernel)
set_option maxRecDepth 20000 in
theorem gX6_set_X1_recordUnlessError_n71 : GoodIn wsX6_set (wsX1_recordUnlessError) := ggX6_set_X1_recordUnlessError
set_option maxRecDepth 20000 in
theorem ggX6_price_X1_keepAside : GoodIn wsX6_price wsX1_keepAside := goodIn_r _ [6, 7, 8, 9, 10, 11, 12, 13, 14, 15, 16, 17, 18, 19, 20, 21, 22, 23, 24, 48, 49, 50, 51, 52] (by decide +kernel) (by decide +kernel)
set_option maxRecDepth 20000 in
theorem gX6_price_X1_keepAside_n64 : GoodIn wsX6_price (wsX1_keepAside) := ggX6_price_X1_keepAside
set_option maxRecDepth 20000 in
theorem ggX6_price_X2_changePrice : GoodIn wsX6_price wsX2_changePrice := goodIn_r _ [27, 28, 29, 15, 30, 31, 32, 33, 10, 34, 13, 51, 52] (by decide +kernel) (by decide +kernel)
set_option maxRecDepth 20000 in
theorem gX6_price_X2_changePrice_n75 : GoodIn wsX6_price (wsX2_changePrice) := ggX6_price_X2_changePrice
set_option maxRecDepth 20000 in
theorem ggX6_price_X1_recordUnlessError : GoodIn wsX6_price wsX1_recordUnlessError := goodIn_r _ [37, 7, 38, 39, 18, 19, 20, 48, 49, 50] (by decide +kernel) (by decide +kernel)
set_option maxRecDepth 20000 in
theorem gX6_price_X1_recordUnlessError_n71 : GoodIn wsX6_price (wsX1_recordUnlessError) := ggX6_price_X1_recordUnlessError
set_option maxRecDepth 20000 in
theorem ggX6_inflow_X1_keepAside : GoodIn wsX6_inflow wsX1_keepAside := goodIn_r _ [6, 7, 8, 9, 10, 11, 12, 13, 14, 15, 16, 17, 18, 19, 20, 21, 22, 23, 24, 48, 49, 50, 51, 52] (by decide +kernel) (by decide +kernel)
set_option maxRecDepth 20000 in
theorem gX6_inflow_X1_keepAside_n64 : GoodIn wsX6_inflow (wsX1_keepAside) := ggX6_inflow_X1_keepAside
set_option maxRecDepth 20000 in
theorem ggX6_inflow_X2_changeInflow : GoodIn wsX6_inflow wsX2_changeInflow := goodIn_r _ [27, 28, 29, 15, 30, 31, 32, 33, 10, 34, 13, 51, 52] (by decide +kernel) (by decide +kernel)
set_option maxRecDepth 20000 in
theorem gX6_inflow_X2_changeInflow_n78 : GoodIn wsX6_inflow (wsX2_changeInflow) := ggX6_inflow_X2_changeInflow
set_option maxRecDepth 20000 in
theorem ggX6_inflow_X1_recordUnlessError : GoodIn wsX6_inflow wsX1_recordUnlessError := goodIn_r _ [37, 7, 38, 39, 18, 19, 20, 48, 49, 50] (by decide +kernel) (by decide +kernel)
set_option maxRecDepth 20000 in
theorem gX6_inflow_X1_recordUnlessError_n71 : GoodIn wsX6_inflow (wsX1_recordUnlessError) := ggX6_inflow_X1_recordUnlessError
set_option maxRecDepth 20000 in
theorem ggX6_plan_X1_keepAside : GoodIn wsX6_plan wsX1_keepAside := goodIn_r _ [6, 7, 8, 9, 10, 11, 12, 13, 14, 15, 16, 17, 18, 19, 20, 21, 22, 23, 24, 47, 48, 49, 50, 51] (by decide +kernel) (by decide +kernel)
set_option maxRecDepth 20000 in
theorem gX6_plan_X1_keepAside_n64 : GoodIn wsX6_plan (wsX1_keepAside) := ggX6_plan_X1_keepAside
set_option maxRecDepth 20000 in
theorem ggX6_plan_X2_changePlan : GoodIn wsX6_plan wsX2_changePlan := goodIn_r _ [27, 13, 28, 15, 29, 30, 31, 32, 10, 33, 50, 51] (by decide +kernel) (by decide +kernel)
set_option maxRecDepth 20000 in
theorem gX6_plan_X2_changePlan_n81 : GoodIn wsX6_plan (wsX2_changePlan) := ggX6_plan_X2_changePlan
set_option maxRecDepth 20000 in
theorem ggX6_plan_X1_recordUnlessError : GoodIn wsX6_plan wsX1_recordUnlessError := goodIn_r _ [36, 7, 37, 38, 18, 19, 20, 47, 48, 49] (by decide +kernel) (by decide +kernel)
set_option maxRecDepth 20000 in
theorem gX6_plan_X1_recordUnlessError_n71 : GoodIn wsX6_plan (wsX1_recordUnlessError) := ggX6_plan_X1_recordUnlessError
set_option maxRecDepth 20000 in
theorem ggX6_contract_X1_keepAside : GoodIn wsX6_contract wsX1_keepAside := goodIn_r _ [6, 7, 8, 9, 10, 11, 12, 13, 14, 15, 16, 17, 18, 19, 20, 21, 22, 23, 24, 52, 53, 54, 55, 56] (by decide +kernel) (by decide +kernel)
set_option maxRecDepth 20000 in
theorem gX6_contract_X1_keepAside_n64 : GoodIn wsX6_contract (wsX1_keepAside) := ggX6_contract_X1_keepAside
set_option maxRecDepth 20000 in
theorem ggX6_contract_X2_addContract : GoodIn wsX6_contract wsX2_addContract := goodIn_r _ [27, 13, 28, 29, 15, 30, 31, 32, 33, 10, 34, 35, 36, 37, 38, 55, 56] (by decide +kernel) (by decide +kernel)
set_option maxRecDepth 20000 in
theorem gX6_contract_X2_addContract_n84 : GoodIn wsX6_contract (wsX2_addContract) := ggX6_contract_X2_addContract
set_option maxRecDepth 20000 in
theorem ggX6_contract_X1_recordUnlessError : GoodIn wsX6_contract wsX1_recordUnlessError := goodIn_r _ [41, 7, 42, 43, 18, 19, 20, 52, 53, 54] (by decide +kernel) (by decide +kernel)
set_option maxRecDepth 20000 in
theorem gX6_contract_X1_recordUnlessError_n71 : GoodIn wsX6_contract (wsX1_recordUnlessError) := ggX6_contract_X1_recordUnlessError
set_option maxRecDepth 20000 in
theorem ggX6_drop_X1_keepAside : GoodIn wsX6_drop wsX1_keepAside := goodIn_r _ [6, 7, 8, 9, 10, 11, 12, 13, 14, 15, 16, 17, 18, 19, 20, 21, 22, 23, 24, 50, 51, 52, 53, 54] (by decide +kernel) (by decide +kernel)
set_option maxRecDepth 20000 in
theorem gX6_drop_X1_keepAside_n64 : GoodIn wsX6_drop (wsX1_keepAside) := ggX6_drop_X1_keepAside
set_option maxRecDepth 20000 in
theorem ggX6_drop_X2_removeContract : GoodIn wsX6_drop wsX2_removeContract := goodIn_r _ [27, 13, 28, 29, 30, 31, 10, 32, 33, 34, 35, 36, 53, 54] (by decide +kernel) (by decide +kernel)
set_option maxRecDepth 20000 in
theorem gX6_drop_X2_removeContract_n88 : GoodIn wsX6_drop (wsX2_removeContract) := ggX6_drop_X2_removeContract
set_option maxRecDepth 20000 in
theorem ggX6_drop_X1_recordUnlessError : GoodIn wsX6_drop wsX1_recordUnlessError := goodIn_r _ [39, 7, 40, 41, 18, 19, 20, 50, 51, 52] (by decide +kernel) (by decide +kernel)
set_option maxRecDepth 20000 in
theorem gX6_drop_X1_recordUnlessError_n71 : GoodIn wsX6_drop (wsX1_recordUnlessError) := ggX6_drop_X1_recordUnlessError
set_option maxRecDepth 20000 in
theorem ggX6_adopt_X1_keepAside : GoodIn wsX6_adopt wsX1_keepAside := goodIn_r _ [6, 7, 8, 9, 10, 11, 12, 13, 14, 15, 16, 17, 18, 19, 20, 21, 22, 23, 24, 155, 156, 157, 158, 159] (by decide +kernel) (by decide +kernel)
set_option maxRecDepth 20000 in
theorem gX6_adopt_X1_keepAside_n64 : GoodIn wsX6_adopt (wsX1_keepAside) := ggX6_adopt_X1_keepAside
set_option maxRecDepth 20000 in
theorem ggX6_adopt_X6_adoptBest : GoodIn wsX6_adopt wsX6_adoptBest := goodIn_r _ [28, 29, 2, 30, 31, 32, 33, 34, 35, 36, 37, 38, 39, 10, 40, 41, 13, 42, 43, 44, 45, 46, 47, 48, 49, 50, 51, 52, 53, 54, 55, 56, 57, 58, 59, 60, 61, 62, 63, 64, 65, 66, 67, 68, 69, 70, 71, 19, 72, 73, 74, 75, 76, 77, 78, 79, 80, 18, 20, 81, 82, 83, 84, 85, 86, 87, 88, 89, 90, 91, 15, 92, 93, 94, 95, 96, 97, 98, 99, 100, 101, 102, 103, 104, 105, 106, 107, 108, 109, 110, 111, 112, 113, 114, 115, 116, 117, 118, 119, 120, 121, 122, 123, 124, 125, 126, 127, 128, 129, 130, 131, 132, 133, 134, 135, 136, 137, 138, 139, 140, 141, 147, 148, 149, 150, 151, 152, 153, 154, 160, 161, 162, 163, 164, 165, 166, 167, 168, 158, 159] (by decide +kernel) (by decide +kernel)
set_option maxRecDepth 20000 in
theorem gX6_adopt_X6_adoptBest : GoodIn wsX6_adopt (wsV RX6 91 RX6 yX6_adoptBest wsX6_adoptBest) := goodIn_app (goodIn_of _ (by decide +kernel)) ggX6_adopt_X6_adoptBest
set_option maxRecDepth 20000 in
theorem ggX6_adopt_X1_recordUnlessError : GoodIn wsX6_adopt wsX1_recordUnlessError := goodIn_r _ [144, 7, 145, 146, 18, 19, 20, 155, 156, 157] (by decide +kernel) (by decide +kernel)
set_option maxRecDepth 20000 in
theorem gX6_adopt_X1_recordUnlessError_n71 : GoodIn wsX6_adopt (wsX1_recordUnlessError) := ggX6_adopt_X1_recordUnlessError
set_option maxRecDepth 20000 in
theorem ggX6_hour_X6_isHour : GoodIn wsX6_hour wsX6_isHour := goodIn_r _ [7] (by decide +kernel) (by decide +kernel)
set_option maxRecDepth 20000 in
theorem gX6_hour_X6_isHour : GoodIn wsX6_hour (va_wsS RX6 95 yX6_isHour wsX6_isHour) := goodIn_app (goodIn_of _ (by decide +kernel)) ggX6_hour_X6_isHour
set_option maxRecDepth 20000 in
theorem ggX6_hour_X0_follow : GoodIn wsX6_hour wsX0_follow := goodIn_r _ [11, 12, 13, 14, 15, 16, 17, 18, 19, 20, 21, 22, 23, 9, 24, 25, 26, 27, 28, 29, 5, 6, 7, 30, 31, 32, 33, 34, 35, 36, 37, 38, 39, 40, 41, 42, 43, 44, 45, 46, 47, 48, 49, 50, 51, 52, 53, 54, 55, 56, 57, 58, 59, 60, 61, 62, 63, 64, 65, 66, 67, 68, 69, 70, 71, 72, 73, 74, 75, 76, 77, 78, 79, 80, 81, 82, 83, 92, 93, 94, 95, 96, 97, 98, 99, 100, 101, 102] (by decide +kernel) (by decide +kernel)
set_option maxRecDepth 20000 in
theorem gX6_hour_X0_follow_n99 : GoodIn wsX6_hour (wsX0_follow) := ggX6_hour_X0_follow
set_option maxRecDepth 20000 in
theorem ggX6_hour_X2_priceOf : GoodIn wsX6_hour wsX2_priceOf := goodIn_r _ [68, 20, 101, 102] (by decide +kernel) (by decide +kernel)
set_option maxRecDepth 20000 in
theorem gX6_hour_X2_priceOf_n102 : GoodIn wsX6_hour (wsX2_priceOf) := ggX6_hour_X2_priceOf
set_option maxRecDepth 20000 in
theorem ggX6_hour_X2_inflowOf : GoodIn wsX6_hour wsX2_inflowOf := goodIn_r _ [49, 20, 101, 102] (by decide +kernel) (by decide +kernel)
set_option maxRecDepth 20000 in
theorem gX6_hour_X2_inflowOf_n105 : GoodIn wsX6_hour (wsX2_inflowOf) := ggX6_hour_X2_inflowOf
set_option maxRecDepth 20000 in
theorem ggX6_hour_X2_planOf : GoodIn wsX6_hour wsX2_planOf := goodIn_r _ [32, 20, 101, 102] (by decide +kernel) (by decide +kernel)
set_option maxRecDepth 20000 in
theorem gX6_hour_X2_planOf_n108 : GoodIn wsX6_hour (wsX2_planOf) := ggX6_hour_X2_planOf
set_option maxRecDepth 20000 in
theorem ggX6_day_X0_follow : GoodIn wsX6_day wsX0_follow := goodIn_r _ [6, 7, 8, 9, 10, 11, 12, 13, 14, 15, 16, 17, 18, 4, 19, 20, 21, 22, 23, 24, 25, 26, 27, 28, 29, 30, 31, 32, 33, 34, 35, 36, 37, 38, 39, 40, 41, 42, 43, 44, 45, 46, 47, 48, 49, 50, 51, 52, 53, 54, 55, 56, 57, 58, 59, 60, 61, 62, 63, 64, 65, 66, 67, 68, 69, 70, 71, 72, 73, 74, 75, 76, 77, 78, 79, 80, 81, 121, 122, 123, 124, 125, 126, 127, 128, 129, 130, 131] (by decide +kernel) (by decide +kernel)
set_option maxRecDepth 20000 in
theorem gX6_day_X0_follow_n99 : GoodIn wsX6_day (wsX0_follow) := ggX6_day_X0_follow
set_option maxRecDepth 20000 in
theorem ggX6_day_X6_moneyOfDay : GoodIn wsX6_day wsX6_moneyOfDay := goodIn_r _ [85, 1, 86, 87, 88, 26, 89, 113, 114, 115, 116, 117, 118, 119, 120, 121, 122, 123, 124, 125, 126, 127, 128, 129] (by decide +kernel) (by decide +kernel)
set_option maxRecDepth 20000 in
theorem gX6_day_X6_moneyOfDay : GoodIn wsX6_day (wsV RX6 146 RX6 yX6_moneyOfDay wsX6_moneyOfDay) := goodIn_app (goodIn_of _ (by decide +kernel)) ggX6_day_X6_moneyOfDay
set_option maxRecDepth 20000 in
theorem ggX6_day_X6_sumOf : GoodIn wsX6_day wsX6_sumOf := goodIn_r _ [89] (by decide +kernel) (by decide +kernel)
set_option maxRecDepth 20000 in
theorem gX6_day_X6_sumOf : GoodIn wsX6_day (va_wsS RX6 149 yX6_sumOf wsX6_sumOf) := goodIn_app (goodIn_of _ (by decide +kernel)) ggX6_day_X6_sumOf
set_option maxRecDepth 20000 in
theorem ggX6_day_X0_levelInTheEnd : GoodIn wsX6_day wsX0_levelInTheEnd := goodIn_r _ [92, 23, 121, 122, 123, 124, 125, 126, 127, 128, 129] (by decide +kernel) (by decide +kernel)
set_option maxRecDepth 20000 in
theorem gX6_day_X0_levelInTheEnd_n153 : GoodIn wsX6_day (wsX0_levelInTheEnd) := ggX6_day_X0_levelInTheEnd
set_option maxRecDepth 20000 in
theorem ggX6_day_X0_hoursWith : GoodIn wsX6_day wsX0_hoursWith := goodIn_r _ [95, 96, 97, 98, 4, 99, 8, 100, 101, 102, 103, 104, 105, 106, 121, 122, 123, 124, 125, 126, 127, 128, 129] (by decide +kernel) (by decide +kernel)
set_option maxRecDepth 20000 in
theorem gX6_day_X0_hoursWith_n156 : GoodIn wsX6_day (wsX0_hoursWith) := ggX6_day_X0_hoursWith
set_option maxRecDepth 20000 in
theorem ggX6_day_X0_missedContracts : GoodIn wsX6_day wsX0_missedContracts := goodIn_r _ [109, 7, 22, 79, 12, 80, 81, 67, 68, 69, 70, 15, 71, 72, 73, 74, 121, 122, 123, 124, 125, 126, 127, 128, 129, 130, 131] (by decide +kernel) (by decide +kernel)
set_option maxRecDepth 20000 in
theorem gX6_day_X0_missedContracts_n159 : GoodIn wsX6_day (wsX0_missedContracts) := ggX6_day_X0_missedContracts
set_option maxRecDepth 20000 in
theorem ggX6_day_X2_settingOf : GoodIn wsX6_day wsX2_settingOf := goodIn_r _ [14, 15, 130, 131] (by decide +kernel) (by decide +kernel)
set_option maxRecDepth 20000 in
theorem gX6_day_X2_settingOf_n162 : GoodIn wsX6_day (wsX2_settingOf) := ggX6_day_X2_settingOf
set_option maxRecDepth 20000 in
theorem ggX6_day_X2_allInflows : GoodIn wsX6_day wsX2_allInflows := goodIn_r _ [112, 44, 45, 46, 12, 47, 15, 130, 131] (by decide +kernel) (by decide +kernel)
set_option maxRecDepth 20000 in
theorem gX6_day_X2_allInflows_n165 : GoodIn wsX6_day (wsX2_allInflows) := ggX6_day_X2_allInflows
set_option maxRecDepth 20000 in
theorem ggX6_troubled_X0_follow : GoodIn wsX6_troubled wsX0_follow := goodIn_r _ [5, 6, 7, 8, 9, 10, 11, 12, 13, 14, 15, 16, 17, 3, 18, 19, 20, 21, 22, 23, 24, 25, 26, 27, 28, 29, 30, 31, 32, 33, 34, 35, 36, 37, 38, 39, 40, 41, 42, 43, 44, 45, 46, 47, 48, 49, 50, 51, 52, 53, 54, 55, 56, 57, 58, 59, 60, 61, 62, 63, 64, 65, 66, 67, 68, 69, 70, 71, 72, 73, 74, 75, 76, 77, 78, 79, 80, 92, 93, 94, 95, 96, 97, 98, 99, 100, 101, 102] (by decide +kernel) (by decide +kernel)
set_option maxRecDepth 20000 in
theorem gX6_troubled_X0_follow_n99 : GoodIn wsX6_troubled (wsX0_follow) := ggX6_troubled_X0_follow
set_option maxRecDepth 20000 in
theorem ggX6_troubled_X0_setOf : GoodIn wsX6_troubled wsX0_setOf := goodIn_r _ [83, 7, 92, 93, 94, 95, 96, 97, 98, 99, 100] (by decide +kernel) (by decide +kernel)
set_option maxRecDepth 20000 in
theorem gX6_troubled_X0_setOf_n168 : GoodIn wsX6_troubled (wsX0_setOf) := ggX6_troubled_X0_setOf
set_option maxRecDepth 20000 in
theorem ggX6_count_X2_settingOf : GoodIn wsX6_count wsX2_settingOf := goodIn_r _ [7, 8, 25, 26] (by decide +kernel) (by decide +kernel)
set_option maxRecDepth 20000 in
theorem gX6_count_X2_settingOf_n162 : GoodIn wsX6_count (wsX2_settingOf) := ggX6_count_X2_settingOf
set_option maxRecDepth 20000 in
theorem ggX6_count_X2_contracts : GoodIn wsX6_count wsX2_contracts := goodIn_r _ [11, 8, 25, 26] (by decide +kernel) (by decide +kernel)
set_option maxRecDepth 20000 in
theorem gX6_count_X2_contracts_n171 : GoodIn wsX6_count (wsX2_contracts) := ggX6_count_X2_contracts
set_option maxRecDepth 20000 in
theorem ggX6_best_X5_solve : GoodIn wsX6_best wsX5_solve := goodIn_r _ [8, 9, 10, 11, 12, 13, 14, 15, 16, 17, 18, 19, 20, 21, 22, 23, 24, 6, 25, 26, 27, 28, 29, 30, 31, 32, 33, 34, 35, 36, 37, 38, 39, 40, 41, 42, 43, 44, 45, 46, 47, 48, 49, 50, 51, 52, 53, 54, 55, 56, 57, 58, 59, 60, 61, 62, 63, 64, 65, 66, 67, 68, 69, 70, 71, 72, 73, 74, 75, 76, 77, 78, 79, 80, 81, 82, 83, 84, 85, 86, 87, 88, 89, 90, 91, 92, 93, 94, 95, 96, 97, 98, 99, 100, 101, 102, 103, 104, 105, 106, 107, 108, 109, 110, 111, 112, 121, 122, 123, 124, 125, 126, 127, 128, 129, 130, 131] (by decide +kernel) (by decide +kernel)
set_option maxRecDepth 20000 in
theorem gX6_best_X5_solve_n179 : GoodIn wsX6_best (wsX5_solve) := ggX6_best_X5_solve
set_option maxRecDepth 20000 in
theorem ggX6_best_X2_settingOf : GoodIn wsX6_best wsX2_settingOf := goodIn_r _ [17, 18, 130, 131] (by decide +kernel) (by decide +kernel)
set_option maxRecDepth 20000 in
theorem gX6_best_X2_settingOf_n162 : GoodIn wsX6_best (wsX2_settingOf) := ggX6_best_X2_settingOf
set_option maxRecDepth 20000 in
theorem ggX6_best_X5_mostFrom : GoodIn wsX6_best wsX5_mostFrom := goodIn_r _ [54, 12, 11, 121, 122, 123, 124, 125, 126, 127, 128, 129] (by decide +kernel) (by decide +kernel)
set_option maxRecDepth 20000 in
theorem gX6_best_X5_mostFrom_n182 : GoodIn wsX6_best (wsX5_mostFrom) := ggX6_best_X5_mostFrom
set_option maxRecDepth 20000 in
theorem ggX6_bestPlan_X6_isHour : GoodIn wsX6_bestPlan wsX6_isHour := goodIn_r _ [5] (by decide +kernel) (by decide +kernel)
set_option maxRecDepth 20000 in
theorem gX6_bestPlan_X6_isHour : GoodIn wsX6_bestPlan (va_wsS RX6 95 yX6_isHour wsX6_isHour) := goodIn_app (goodIn_of _ (by decide +kernel)) ggX6_bestPlan_X6_isHour
set_option maxRecDepth 20000 in
theorem ggX6_bestPlan_X5_solve : GoodIn wsX6_bestPlan wsX5_solve := goodIn_r _ [9, 10, 11, 12, 13, 14, 15, 16, 17, 18, 19, 20, 21, 22, 23, 24, 25, 7, 26, 27, 28, 29, 30, 31, 32, 33, 34, 35, 36, 37, 38, 39, 40, 41, 42, 43, 44, 45, 46, 47, 48, 49, 50, 51, 52, 53, 54, 55, 56, 57, 58, 59, 60, 61, 62, 63, 64, 65, 66, 67, 68, 69, 70, 71, 3, 4, 5, 72, 73, 74, 75, 76, 77, 78, 79, 80, 81, 82, 83, 84, 85, 86, 87, 88, 89, 90, 91, 92, 93, 94, 95, 96, 97, 98, 99, 100, 101, 102, 103, 104, 105, 106, 107, 108, 109, 110, 119, 120, 121, 122, 123, 124, 125, 126, 127, 128, 129] (by decide +kernel) (by decide +kernel)
set_option maxRecDepth 20000 in
theorem gX6_bestPlan_X5_solve_n179 : GoodIn wsX6_bestPlan (wsX5_solve) := ggX6_bestPlan_X5_solve
set_option maxRecDepth 20000 in
theorem ggX6_worth_X2_settingOf : GoodIn wsX6_worth wsX2_settingOf := goodIn_r _ [8, 9, 121, 122] (by decide +kernel) (by decide +kernel)
set_option maxRecDepth 20000 in
theorem gX6_worth_X2_settingOf_n162 : GoodIn wsX6_worth (wsX2_settingOf) := ggX6_worth_X2_settingOf
set_option maxRecDepth 20000 in
theorem ggX6_worth_X5_solve : GoodIn wsX6_worth wsX5_solve := goodIn_r _ [13, 14, 15, 16, 17, 18, 5, 6, 7, 8, 9, 19, 20, 21, 22, 23, 24, 11, 25, 26, 27, 28, 29, 30, 31, 32, 33, 34, 35, 36, 37, 38, 39, 40, 41, 42, 43, 44, 45, 46, 47, 48, 49, 50, 51, 52, 53, 54, 55, 56, 57, 58, 59, 60, 61, 62, 63, 64, 65, 66, 67, 68, 69, 70, 71, 72, 73, 74, 75, 76, 77, 78, 79, 80, 81, 82, 83, 84, 85, 86, 87, 88, 89, 90, 91, 92, 93, 94, 95, 96, 97, 98, 99, 100, 101, 102, 103, 104, 105, 106, 107, 108, 109, 110, 111, 112, 123, 124, 125, 126, 127, 128, 129, 130, 131, 121, 122] (by decide +kernel) (by decide +kernel)
set_option maxRecDepth 20000 in
theorem gX6_worth_X5_solve_n179 : GoodIn wsX6_worth (wsX5_solve) := ggX6_worth_X5_solve
set_option maxRecDepth 20000 in
theorem ggX6_worth_X5_mostFrom : GoodIn wsX6_worth wsX5_mostFrom := goodIn_r _ [54, 17, 16, 123, 124, 125, 126, 127, 128, 129, 130, 131] (by decide +kernel) (by decide +kernel)
set_option maxRecDepth 20000 in
theorem gX6_worth_X5_mostFrom_n182 : GoodIn wsX6_worth (wsX5_mostFrom) := ggX6_worth_X5_mostFrom
set_option maxRecDepth 20000 in
theorem ggX6_highest_X2_highestInTheEnd : GoodIn wsX6_highest wsX2_highestInTheEnd := goodIn_r _ [5, 6, 7, 8, 9, 3, 10, 11, 12, 13, 14, 15, 16, 17, 18, 19, 20, 21, 22, 23, 24, 25, 26, 27, 28, 29, 30, 31, 32, 33, 34, 35, 36, 37, 38, 39, 40, 41, 42, 43, 44, 53, 54] (by decide +kernel) (by decide +kernel)
set_option maxRecDepth 20000 in
theorem gX6_highest_X2_highestInTheEnd_n194 : GoodIn wsX6_highest (wsX2_highestInTheEnd) := ggX6_highest_X2_highestInTheEnd
set_option maxRecDepth 20000 in
theorem ggX6_undo_X1_takeBack : GoodIn wsX6_undo wsX1_takeBack := goodIn_r _ [6, 7, 8, 9, 10, 11, 12, 13, 14, 15, 16, 17, 18, 19, 20, 21, 22, 23, 24, 25, 26, 35, 36, 37, 38, 39] (by decide +kernel) (by decide +kernel)
set_option maxRecDepth 20000 in
theorem gX6_undo_X1_takeBack_n221 : GoodIn wsX6_undo (wsX1_takeBack) := ggX6_undo_X1_takeBack
set_option maxRecDepth 20000 in
theorem ggX6_adoptBest_X5_solve : GoodIn wsX6_adoptBest wsX5_solve := goodIn_r _ [6, 7, 8, 9, 10, 11, 12, 13, 14, 15, 16, 17, 18, 19, 20, 21, 22, 4, 23, 24, 25, 26, 27, 28, 29, 30, 31, 32, 33, 34, 35, 36, 37, 38, 39, 40, 41, 42, 43, 44, 45, 46, 47, 48, 49, 50, 51, 52, 53, 54, 55, 56, 57, 58, 59, 60, 61, 62, 63, 64, 65, 66, 67, 68, 69, 70, 71, 72, 73, 74, 75, 76, 77, 78, 79, 80, 81, 82, 83, 84, 85, 86, 87, 88, 89, 90, 91, 92, 93, 94, 95, 96, 97, 98, 99, 100, 101, 102, 103, 104, 105, 106, 107, 108, 109, 110, 129, 130, 131, 132, 133, 134, 135, 136, 137, 138, 139] (by decide +kernel) (by decide +kernel)
set_option maxRecDepth 20000 in
theorem gX6_adoptBest_X5_solve_n179 : GoodIn wsX6_adoptBest (wsX5_solve) := ggX6_adoptBest_X5_solve
set_option maxRecDepth 20000 in
theorem ggX6_adoptBest_X2_planOf : GoodIn wsX6_adoptBest wsX2_planOf := goodIn_r _ [113, 16, 138, 139] (by decide +kernel) (by decide +kernel)
set_option maxRecDepth 20000 in
theorem gX6_adoptBest_X2_planOf_n108 : GoodIn wsX6_adoptBest (wsX2_planOf) := ggX6_adoptBest_X2_planOf
set_option maxRecDepth 20000 in
theorem ggX6_adoptBest_X2_changePlan : GoodIn wsX6_adoptBest wsX2_changePlan := goodIn_r _ [116, 16, 69, 70, 71, 117, 118, 119, 13, 120, 138, 139] (by decide +kernel) (by decide +kernel)
set_option maxRecDepth 20000 in
theorem gX6_adoptBest_X2_changePlan_n81 : GoodIn wsX6_adoptBest (wsX2_changePlan) := ggX6_adoptBest_X2_changePlan
set_option maxRecDepth 20000 in
theorem ggX6_moneyOfDay_X6_sumOf : GoodIn wsX6_moneyOfDay wsX6_sumOf := goodIn_r _ [6] (by decide +kernel) (by decide +kernel)
set_option maxRecDepth 20000 in
theorem gX6_moneyOfDay_X6_sumOf : GoodIn wsX6_moneyOfDay (va_wsS RX6 149 yX6_sumOf wsX6_sumOf) := goodIn_app (goodIn_of _ (by decide +kernel)) ggX6_moneyOfDay_X6_sumOf
abbrev vwCl : List vw_C := [(RX0, TX0, 9), (RX1, TX1, 3), (RX2, TX2, 2), (RX3, TX3, 2), (RX4, TX4, 10), (RX5, TX5, 9), (RX6, TX6, 8)]
