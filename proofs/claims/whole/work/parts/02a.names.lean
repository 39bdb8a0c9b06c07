/-! ===== BEGIN words of one list among another's, by their places ===== -/
theorem goodIn_r {big : List Cond} (ws : List Cond) (ps : List Nat) (hp : ws = ps.filterMap (fun i => big[i]?)) (h : ws.all goodWord = true) : GoodIn big ws := by
  intro w hw
  have h1 := List.all_eq_true.mp h w hw
  rw [hp] at hw
  obtain ⟨i, -, hi⟩ := List.mem_filterMap.mp hw
  have hm : w ∈ big := by first | exact List.mem_of_getElem? hi | exact List.getElem?_mem hi
  exact ⟨hm, good_of_word h1⟩
theorem goodIn_app {big a b : List Cond} (ha : GoodIn big a) (hb : GoodIn big b) : GoodIn big (a ++ b) := fun w h => (List.mem_append.mp h).elim (ha w) (hb w)
theorem goodIn_ca {big a b : List Cond} {c : Cond} (ha : GoodIn big (c :: a)) (hb : GoodIn big b) : GoodIn big (c :: (a ++ b)) := fun w h => (List.mem_cons.mp h).elim (fun e => ha w (List.mem_cons.mpr (Or.inl e))) (fun h => (List.mem_append.mp h).elim (fun h => ha w (List.mem_cons.mpr (Or.inr h))) (hb w))
theorem goodIn_sub {big ws : List Cond} (hm : ∀ w ∈ ws, w ∈ big) (h : ws.all goodWord = true) : GoodIn big ws := fun w hw => ⟨hm w hw, good_of_word (List.all_eq_true.mp h w hw)⟩
/-! ===== END ===== -/

/-! ===== BEGIN printed: names, fields, word lists, decode rows ===== -/
def RX0 : String := "EarthBanks$DamText"
def TX0 : u_T := fun k => match k with
  | 0 => ("EarthBanks$DamText", "bytes", "[I", true)
  | 1 => ("EarthBanks$DamText", "length", "I", false)
  | 2 => ("EarthBanks$DamText", "sort", "I", false)
  | 3 => ("EarthBanks$DamText", "first", "I", false)
  | 4 => ("EarthBanks$DamText", "behind", "I", false)
  | _ => ("EarthBanks$DamText", "value", "I", false)
def tyX0 : Nat → FieldType := fun k => match k with
  | 0 => .array .int
  | 1 => .int
  | 2 => .int
  | 3 => .int
  | 4 => .int
  | _ => .int
abbrev wsX00 : List Cond := u_ws RX0 TX0 6
theorem nmX0 : ∀ a, a < 6 → ∀ b, b < 6 → a ≠ b → (TX0 a).2.1 ≠ (TX0 b).2.1 := by decide +kernel
theorem tyX0_ok : ∀ k, k < 6 → parseFieldDescriptor (TX0 k).2.2.1 = some (tyX0 k) := by decide +kernel
abbrev cX0_init : ByteArray := prog_2_method_1_code
def yX0_init : MethodName := ⟨RX0, "<init>", "()V"⟩
abbrev cX0_append : ByteArray := prog_2_method_2_code
def yX0_append : MethodName := ⟨RX0, "append", "(JI)Z"⟩
abbrev cX0_drop : ByteArray := prog_2_method_3_code
def yX0_drop : MethodName := ⟨RX0, "drop", "()I"⟩
abbrev cX0_readInto : ByteArray := prog_2_method_4_code
def yX0_readInto : MethodName := ⟨RX0, "readInto", "(LEarthBanks$Slice;)I"⟩
abbrev cX0_readZone : ByteArray := prog_2_method_5_code
def yX0_readZone : MethodName := ⟨RX0, "readZone", "(LEarthBanks$Slice;)Z"⟩
abbrev cX0_readRow : ByteArray := prog_2_method_6_code
def yX0_readRow : MethodName := ⟨RX0, "readRow", "(LEarthBanks$Slice;)Z"⟩
abbrev cX0_zoneOf : ByteArray := prog_2_method_7_code
def yX0_zoneOf : MethodName := ⟨RX0, "zoneOf", "(I)I"⟩
abbrev cX0_takeNumber : ByteArray := prog_2_method_8_code
def yX0_takeNumber : MethodName := ⟨RX0, "takeNumber", "(II)Z"⟩
abbrev cX0_takeStop : ByteArray := prog_2_method_9_code
def yX0_takeStop : MethodName := ⟨RX0, "takeStop", "()Z"⟩
abbrev cX0_isWord : ByteArray := prog_2_method_10_code
def yX0_isWord : MethodName := ⟨RX0, "isWord", "(Ljava/lang/String;)Z"⟩
abbrev cX0_takeToken : ByteArray := prog_2_method_11_code
def yX0_takeToken : MethodName := ⟨RX0, "takeToken", "()V"⟩
abbrev cX0_takeWord : ByteArray := prog_2_method_12_code
def yX0_takeWord : MethodName := ⟨RX0, "takeWord", "()V"⟩
abbrev cX0_takeDigits : ByteArray := prog_2_method_13_code
def yX0_takeDigits : MethodName := ⟨RX0, "takeDigits", "()V"⟩
abbrev cX0_isWordSign : ByteArray := prog_2_method_14_code
def yX0_isWordSign : MethodName := ⟨RX0, "isWordSign", "(I)Z"⟩
abbrev cX0_isDigit : ByteArray := prog_2_method_15_code
def yX0_isDigit : MethodName := ⟨RX0, "isDigit", "(I)Z"⟩
def RX1 : String := "EarthBanks$Reservoir"
def TX1 : u_T := fun k => match k with
  | 0 => ("EarthBanks$Reservoir", "settings", "[I", true)
  | 1 => ("EarthBanks$Reservoir", "waters", "[I", true)
  | 2 => ("EarthBanks$Reservoir", "hours", "[I", true)
  | 3 => ("EarthBanks$Reservoir", "water", "I", false)
  | 4 => ("EarthBanks$Reservoir", "hoursOver", "I", false)
  | 5 => ("EarthBanks$Reservoir", "town", "I", false)
  | _ => ("EarthBanks$Reservoir", "letOut", "I", false)
def tyX1 : Nat → FieldType := fun k => match k with
  | 0 => .array .int
  | 1 => .array .int
  | 2 => .array .int
  | 3 => .int
  | 4 => .int
  | 5 => .int
  | _ => .int
abbrev wsX10 : List Cond := u_ws RX1 TX1 7
theorem nmX1 : ∀ a, a < 7 → ∀ b, b < 7 → a ≠ b → (TX1 a).2.1 ≠ (TX1 b).2.1 := by decide +kernel
theorem tyX1_ok : ∀ k, k < 7 → parseFieldDescriptor (TX1 k).2.2.1 = some (tyX1 k) := by decide +kernel
abbrev cX1_init : ByteArray := prog_3_method_1_code
def yX1_init : MethodName := ⟨RX1, "<init>", "()V"⟩
abbrev cX1_change : ByteArray := prog_3_method_2_code
def yX1_change : MethodName := ⟨RX1, "change", "(II)I"⟩
abbrev cX1_addHour : ByteArray := prog_3_method_3_code
def yX1_addHour : MethodName := ⟨RX1, "addHour", "(II)Z"⟩
abbrev cX1_emptyFlood : ByteArray := prog_3_method_4_code
def yX1_emptyFlood : MethodName := ⟨RX1, "emptyFlood", "(I)I"⟩
abbrev cX1_run : ByteArray := prog_3_method_5_code
def yX1_run : MethodName := ⟨RX1, "run", "(II)V"⟩
abbrev cX1_passHour : ByteArray := prog_3_method_6_code
def yX1_passHour : MethodName := ⟨RX1, "passHour", "(II)V"⟩
abbrev cX1_wasSafe : ByteArray := prog_3_method_7_code
def yX1_wasSafe : MethodName := ⟨RX1, "wasSafe", "()Z"⟩
abbrev cX1_safeFloods : ByteArray := prog_3_method_8_code
def yX1_safeFloods : MethodName := ⟨RX1, "safeFloods", "(I)I"⟩
def RX2 : String := "EarthBanks$Slice"
def TX2 : u_T := fun k => match k with
  | 0 => ("EarthBanks$Slice", "zones", "[I", true)
  | 1 => ("EarthBanks$Slice", "heads", "[I", true)
  | 2 => ("EarthBanks$Slice", "gone", "[I", true)
  | 3 => ("EarthBanks$Slice", "leads", "[I", true)
  | 4 => ("EarthBanks$Slice", "holds", "[I", true)
  | 5 => ("EarthBanks$Slice", "grains", "[I", true)
  | 6 => ("EarthBanks$Slice", "lakeLevel", "I", false)
  | 7 => ("EarthBanks$Slice", "leaving", "[I", true)
  | _ => ("EarthBanks$Slice", "passing", "[I", true)
def tyX2 : Nat → FieldType := fun k => match k with
  | 0 => .array .int
  | 1 => .array .int
  | 2 => .array .int
  | 3 => .array .int
  | 4 => .array .int
  | 5 => .array .int
  | 6 => .int
  | 7 => .array .int
  | _ => .array .int
abbrev wsX20 : List Cond := u_ws RX2 TX2 9
theorem nmX2 : ∀ a, a < 9 → ∀ b, b < 9 → a ≠ b → (TX2 a).2.1 ≠ (TX2 b).2.1 := by decide +kernel
theorem tyX2_ok : ∀ k, k < 9 → parseFieldDescriptor (TX2 k).2.2.1 = some (tyX2 k) := by decide +kernel
abbrev cX2_init : ByteArray := prog_4_method_1_code
def yX2_init : MethodName := ⟨RX2, "<init>", "()V"⟩
abbrev cX2_makeBlank : ByteArray := prog_4_method_2_code
def yX2_makeBlank : MethodName := ⟨RX2, "makeBlank", "()V"⟩
abbrev cX2_copy : ByteArray := prog_4_method_3_code
def yX2_copy : MethodName := ⟨RX2, "copy", "(LEarthBanks$Slice;)V"⟩
abbrev cX2_isAir : ByteArray := prog_4_method_4_code
def yX2_isAir : MethodName := ⟨RX2, "isAir", "(I)Z"⟩
abbrev cX2_isEarth : ByteArray := prog_4_method_5_code
def yX2_isEarth : MethodName := ⟨RX2, "isEarth", "(I)Z"⟩
abbrev cX2_holdAt : ByteArray := prog_4_method_6_code
def yX2_holdAt : MethodName := ⟨RX2, "holdAt", "(I)I"⟩
abbrev cX2_grainAt : ByteArray := prog_4_method_7_code
def yX2_grainAt : MethodName := ⟨RX2, "grainAt", "(I)I"⟩
abbrev cX2_pushAt : ByteArray := prog_4_method_8_code
def yX2_pushAt : MethodName := ⟨RX2, "pushAt", "(I)I"⟩
abbrev cX2_isWet : ByteArray := prog_4_method_9_code
def yX2_isWet : MethodName := ⟨RX2, "isWet", "(I)Z"⟩
abbrev cX2_earthCells : ByteArray := prog_4_method_10_code
def yX2_earthCells : MethodName := ⟨RX2, "earthCells", "()I"⟩
abbrev cX2_goneCells : ByteArray := prog_4_method_11_code
def yX2_goneCells : MethodName := ⟨RX2, "goneCells", "()I"⟩
abbrev cX2_wetCells : ByteArray := prog_4_method_12_code
def yX2_wetCells : MethodName := ⟨RX2, "wetCells", "()I"⟩
abbrev cX2_dropHeads : ByteArray := prog_4_method_13_code
def yX2_dropHeads : MethodName := ⟨RX2, "dropHeads", "()I"⟩
abbrev cX2_soakAnew : ByteArray := prog_4_method_14_code
def yX2_soakAnew : MethodName := ⟨RX2, "soakAnew", "()V"⟩
abbrev cX2_runSweeps : ByteArray := prog_4_method_15_code
def yX2_runSweeps : MethodName := ⟨RX2, "runSweeps", "(I)V"⟩
abbrev cX2_notePassing : ByteArray := prog_4_method_16_code
def yX2_notePassing : MethodName := ⟨RX2, "notePassing", "()V"⟩
abbrev cX2_fixEnds : ByteArray := prog_4_method_17_code
def yX2_fixEnds : MethodName := ⟨RX2, "fixEnds", "()V"⟩
abbrev cX2_levelOthers : ByteArray := prog_4_method_18_code
def yX2_levelOthers : MethodName := ⟨RX2, "levelOthers", "()V"⟩
abbrev cX2_isAtLake : ByteArray := prog_4_method_19_code
def yX2_isAtLake : MethodName := ⟨RX2, "isAtLake", "(I)Z"⟩
abbrev cX2_isAtFoot : ByteArray := prog_4_method_20_code
def yX2_isAtFoot : MethodName := ⟨RX2, "isAtFoot", "(I)Z"⟩
abbrev cX2_leadsAround : ByteArray := prog_4_method_21_code
def yX2_leadsAround : MethodName := ⟨RX2, "leadsAround", "(I)I"⟩
abbrev cX2_flowInto : ByteArray := prog_4_method_22_code
def yX2_flowInto : MethodName := ⟨RX2, "flowInto", "(I)I"⟩
abbrev cX2_neighbour : ByteArray := prog_4_method_23_code
def yX2_neighbour : MethodName := ⟨RX2, "neighbour", "(II)I"⟩
abbrev cX2_seepage : ByteArray := prog_4_method_24_code
def yX2_seepage : MethodName := ⟨RX2, "seepage", "()I"⟩
abbrev cX2_passDay : ByteArray := prog_4_method_25_code
def yX2_passDay : MethodName := ⟨RX2, "passDay", "(I)I"⟩
abbrev cX2_isLoose : ByteArray := prog_4_method_26_code
def yX2_isLoose : MethodName := ⟨RX2, "isLoose", "(II)Z"⟩
abbrev cX2_isOpen : ByteArray := prog_4_method_27_code
def yX2_isOpen : MethodName := ⟨RX2, "isOpen", "(II)Z"⟩
abbrev cX2_daysToBreach : ByteArray := prog_4_method_28_code
def yX2_daysToBreach : MethodName := ⟨RX2, "daysToBreach", "(I)I"⟩
abbrev cX2_earthAtFront : ByteArray := prog_4_method_29_code
def yX2_earthAtFront : MethodName := ⟨RX2, "earthAtFront", "()I"⟩
def RX3 : String := "EarthBanks$Slides"
def TX3 : u_T := fun k => match k with
  | 0 => ("EarthBanks$Slides", "rests", "[I", true)
  | 1 => ("EarthBanks$Slides", "burdens", "[I", true)
  | 2 => ("EarthBanks$Slides", "heights", "[I", true)
  | 3 => ("EarthBanks$Slides", "start", "I", false)
  | 4 => ("EarthBanks$Slides", "aim", "I", false)
  | 5 => ("EarthBanks$Slides", "balances", "[I", true)
  | 6 => ("EarthBanks$Slides", "found", "Z", false)
  | 7 => ("EarthBanks$Slides", "belowAim", "I", false)
  | 8 => ("EarthBanks$Slides", "leastMargin", "I", false)
  | 9 => ("EarthBanks$Slides", "leastStart", "I", false)
  | _ => ("EarthBanks$Slides", "leastHeights", "[I", true)
def tyX3 : Nat → FieldType := fun k => match k with
  | 0 => .array .int
  | 1 => .array .int
  | 2 => .array .int
  | 3 => .int
  | 4 => .int
  | 5 => .array .int
  | 6 => .boolean
  | 7 => .int
  | 8 => .int
  | 9 => .int
  | _ => .array .int
abbrev wsX30 : List Cond := u_ws RX3 TX3 11
theorem nmX3 : ∀ a, a < 11 → ∀ b, b < 11 → a ≠ b → (TX3 a).2.1 ≠ (TX3 b).2.1 := by decide +kernel
theorem tyX3_ok : ∀ k, k < 11 → parseFieldDescriptor (TX3 k).2.2.1 = some (tyX3 k) := by decide +kernel
abbrev cX3_init : ByteArray := prog_5_method_1_code
def yX3_init : MethodName := ⟨RX3, "<init>", "()V"⟩
abbrev cX3_survey : ByteArray := prog_5_method_2_code
def yX3_survey : MethodName := ⟨RX3, "survey", "(LEarthBanks$Slice;LEarthBanks$Works;I)V"⟩
abbrev cX3_walkAll : ByteArray := prog_5_method_3_code
def yX3_walkAll : MethodName := ⟨RX3, "walkAll", "(I)V"⟩
abbrev cX3_walkFrom : ByteArray := prog_5_method_4_code
def yX3_walkFrom : MethodName := ⟨RX3, "walkFrom", "(IIII)V"⟩
abbrev cX3_driveOf : ByteArray := prog_5_method_5_code
def yX3_driveOf : MethodName := ⟨RX3, "driveOf", "(III)I"⟩
abbrev cX3_meetWay : ByteArray := prog_5_method_6_code
def yX3_meetWay : MethodName := ⟨RX3, "meetWay", "(II)V"⟩
abbrev cX3_allReach : ByteArray := prog_5_method_7_code
def yX3_allReach : MethodName := ⟨RX3, "allReach", "(I)Z"⟩
abbrev cX3_leastBehind : ByteArray := prog_5_method_8_code
def yX3_leastBehind : MethodName := ⟨RX3, "leastBehind", "(III)I"⟩
def RX4 : String := "EarthBanks$Watch"
def TX4 : u_T := fun k => match k with
  | 0 => ("EarthBanks$Watch", "gaugePlaces", "[I", true)
  | 1 => ("EarthBanks$Watch", "gaugeReads", "[I", true)
  | 2 => ("EarthBanks$Watch", "causeZones", "[I", true)
  | 3 => ("EarthBanks$Watch", "causeLeads", "[I", true)
  | 4 => ("EarthBanks$Watch", "leastHeads", "[I", true)
  | 5 => ("EarthBanks$Watch", "greatestHeads", "[I", true)
  | 6 => ("EarthBanks$Watch", "gauges", "I", false)
  | 7 => ("EarthBanks$Watch", "causes", "I", false)
  | _ => ("EarthBanks$Watch", "slackAllowed", "I", false)
def tyX4 : Nat → FieldType := fun k => match k with
  | 0 => .array .int
  | 1 => .array .int
  | 2 => .array .int
  | 3 => .array .int
  | 4 => .array .int
  | 5 => .array .int
  | 6 => .int
  | 7 => .int
  | _ => .int
abbrev wsX40 : List Cond := u_ws RX4 TX4 9
theorem nmX4 : ∀ a, a < 9 → ∀ b, b < 9 → a ≠ b → (TX4 a).2.1 ≠ (TX4 b).2.1 := by decide +kernel
theorem tyX4_ok : ∀ k, k < 9 → parseFieldDescriptor (TX4 k).2.2.1 = some (tyX4 k) := by decide +kernel
abbrev cX4_init : ByteArray := prog_6_method_1_code
def yX4_init : MethodName := ⟨RX4, "<init>", "()V"⟩
abbrev cX4_addGauge : ByteArray := prog_6_method_2_code
def yX4_addGauge : MethodName := ⟨RX4, "addGauge", "(II)I"⟩
abbrev cX4_addCause : ByteArray := prog_6_method_3_code
def yX4_addCause : MethodName := ⟨RX4, "addCause", "(II)I"⟩
abbrev cX4_tryCauses : ByteArray := prog_6_method_4_code
def yX4_tryCauses : MethodName := ⟨RX4, "tryCauses", "(LEarthBanks$Slice;LEarthBanks$Slice;)I"⟩
abbrev cX4_allGaugesAgree : ByteArray := prog_6_method_5_code
def yX4_allGaugesAgree : MethodName := ⟨RX4, "allGaugesAgree", "(LEarthBanks$Slice;)Z"⟩
abbrev cX4_noteHeads : ByteArray := prog_6_method_6_code
def yX4_noteHeads : MethodName := ⟨RX4, "noteHeads", "(LEarthBanks$Slice;)V"⟩
abbrev cX4_apartAt : ByteArray := prog_6_method_7_code
def yX4_apartAt : MethodName := ⟨RX4, "apartAt", "(I)I"⟩
abbrev cX4_placeMostApart : ByteArray := prog_6_method_8_code
def yX4_placeMostApart : MethodName := ⟨RX4, "placeMostApart", "(LEarthBanks$Slice;)I"⟩
def RX5 : String := "EarthBanks$Works"
def TX5 : u_T := fun k => match k with
  | 0 => ("EarthBanks$Works", "kinds", "[I", true)
  | 1 => ("EarthBanks$Works", "places", "[I", true)
  | 2 => ("EarthBanks$Works", "mores", "[I", true)
  | 3 => ("EarthBanks$Works", "prices", "[I", true)
  | _ => ("EarthBanks$Works", "size", "I", false)
def tyX5 : Nat → FieldType := fun k => match k with
  | 0 => .array .int
  | 1 => .array .int
  | 2 => .array .int
  | 3 => .array .int
  | _ => .int
abbrev wsX50 : List Cond := u_ws RX5 TX5 5
theorem nmX5 : ∀ a, a < 5 → ∀ b, b < 5 → a ≠ b → (TX5 a).2.1 ≠ (TX5 b).2.1 := by decide +kernel
theorem tyX5_ok : ∀ k, k < 5 → parseFieldDescriptor (TX5 k).2.2.1 = some (tyX5 k) := by decide +kernel
abbrev cX5_init : ByteArray := prog_7_method_1_code
def yX5_init : MethodName := ⟨RX5, "<init>", "()V"⟩
abbrev cX5_add : ByteArray := prog_7_method_2_code
def yX5_add : MethodName := ⟨RX5, "add", "(IIII)I"⟩
abbrev cX5_has : ByteArray := prog_7_method_3_code
def yX5_has : MethodName := ⟨RX5, "has", "(II)Z"⟩
abbrev cX5_priceOf : ByteArray := prog_7_method_4_code
def yX5_priceOf : MethodName := ⟨RX5, "priceOf", "(I)I"⟩
abbrev cX5_moreHold : ByteArray := prog_7_method_5_code
def yX5_moreHold : MethodName := ⟨RX5, "moreHold", "(II)I"⟩
abbrev cX5_isDrained : ByteArray := prog_7_method_6_code
def yX5_isDrained : MethodName := ⟨RX5, "isDrained", "(II)Z"⟩
def RX6 : String := "EarthBanks"
def TX6 : u_T := fun k => match k with
  | 0 => ("EarthBanks", "text", "LEarthBanks$DamText;", true)
  | 1 => ("EarthBanks", "slice", "LEarthBanks$Slice;", true)
  | 2 => ("EarthBanks", "trial", "LEarthBanks$Slice;", true)
  | 3 => ("EarthBanks", "firstImage", "LEarthBanks$Slice;", true)
  | 4 => ("EarthBanks", "secondImage", "LEarthBanks$Slice;", true)
  | 5 => ("EarthBanks", "kept", "[I", true)
  | 6 => ("EarthBanks", "works", "LEarthBanks$Works;", true)
  | 7 => ("EarthBanks", "slides", "LEarthBanks$Slides;", true)
  | 8 => ("EarthBanks", "reservoir", "LEarthBanks$Reservoir;", true)
  | 9 => ("EarthBanks", "watch", "LEarthBanks$Watch;", true)
  | 10 => ("EarthBanks", "filterFactor", "I", false)
  | _ => ("EarthBanks", "traced", "J", false)
def tyX6 : Nat → FieldType := fun k => match k with
  | 0 => .object "EarthBanks$DamText"
  | 1 => .object "EarthBanks$Slice"
  | 2 => .object "EarthBanks$Slice"
  | 3 => .object "EarthBanks$Slice"
  | 4 => .object "EarthBanks$Slice"
  | 5 => .array .int
  | 6 => .object "EarthBanks$Works"
  | 7 => .object "EarthBanks$Slides"
  | 8 => .object "EarthBanks$Reservoir"
  | 9 => .object "EarthBanks$Watch"
  | 10 => .int
  | _ => .long
abbrev wsX60 : List Cond := u_ws RX6 TX6 12
theorem nmX6 : ∀ a, a < 12 → ∀ b, b < 12 → a ≠ b → (TX6 a).2.1 ≠ (TX6 b).2.1 := by decide +kernel
theorem tyX6_ok : ∀ k, k < 12 → parseFieldDescriptor (TX6 k).2.2.1 = some (tyX6 k) := by decide +kernel
abbrev cX6_init : ByteArray := prog_1_method_1_code
def yX6_init : MethodName := ⟨RX6, "<init>", "()V"⟩
abbrev cX6_type : ByteArray := prog_1_method_2_code
def yX6_type : MethodName := ⟨RX6, "type", "(JI)I"⟩
abbrev cX6_clear : ByteArray := prog_1_method_3_code
def yX6_clear : MethodName := ⟨RX6, "clear", "()I"⟩
abbrev cX6_dam : ByteArray := prog_1_method_4_code
def yX6_dam : MethodName := ⟨RX6, "dam", "()I"⟩
abbrev cX6_cell : ByteArray := prog_1_method_5_code
def yX6_cell : MethodName := ⟨RX6, "cell", "(III)I"⟩
abbrev cX6_zone : ByteArray := prog_1_method_6_code
def yX6_zone : MethodName := ⟨RX6, "zone", "(III)I"⟩
abbrev cX6_load : ByteArray := prog_1_method_7_code
def yX6_load : MethodName := ⟨RX6, "load", "(III)I"⟩
abbrev cX6_loadOfPart : ByteArray := prog_1_method_8_code
def yX6_loadOfPart : MethodName := ⟨RX6, "loadOfPart", "(I)I"⟩
abbrev cX6_loadOfCell : ByteArray := prog_1_method_9_code
def yX6_loadOfCell : MethodName := ⟨RX6, "loadOfCell", "(I)I"⟩
abbrev cX6_loadOfDrained : ByteArray := prog_1_method_10_code
def yX6_loadOfDrained : MethodName := ⟨RX6, "loadOfDrained", "(I)I"⟩
abbrev cX6_loadOfCarried : ByteArray := prog_1_method_11_code
def yX6_loadOfCarried : MethodName := ⟨RX6, "loadOfCarried", "(I)I"⟩
abbrev cX6_loadOfCrack : ByteArray := prog_1_method_12_code
def yX6_loadOfCrack : MethodName := ⟨RX6, "loadOfCrack", "(I)I"⟩
abbrev cX6_lake : ByteArray := prog_1_method_13_code
def yX6_lake : MethodName := ⟨RX6, "lake", "(I)I"⟩
abbrev cX6_sweep : ByteArray := prog_1_method_14_code
def yX6_sweep : MethodName := ⟨RX6, "sweep", "(I)I"⟩
abbrev cX6_seep : ByteArray := prog_1_method_15_code
def yX6_seep : MethodName := ⟨RX6, "seep", "()I"⟩
abbrev cX6_dry : ByteArray := prog_1_method_16_code
def yX6_dry : MethodName := ⟨RX6, "dry", "()I"⟩
abbrev cX6_least : ByteArray := prog_1_method_17_code
def yX6_least : MethodName := ⟨RX6, "least", "(I)I"⟩
abbrev cX6_ways : ByteArray := prog_1_method_18_code
def yX6_ways : MethodName := ⟨RX6, "ways", "(I)I"⟩
abbrev cX6_filter : ByteArray := prog_1_method_19_code
def yX6_filter : MethodName := ⟨RX6, "filter", "(I)I"⟩
abbrev cX6_day : ByteArray := prog_1_method_20_code
def yX6_day : MethodName := ⟨RX6, "day", "()I"⟩
abbrev cX6_breach : ByteArray := prog_1_method_21_code
def yX6_breach : MethodName := ⟨RX6, "breach", "()I"⟩
abbrev cX6_highest : ByteArray := prog_1_method_22_code
def yX6_highest : MethodName := ⟨RX6, "highest", "()I"⟩
abbrev cX6_pool : ByteArray := prog_1_method_23_code
def yX6_pool : MethodName := ⟨RX6, "pool", "(II)I"⟩
abbrev cX6_flood : ByteArray := prog_1_method_24_code
def yX6_flood : MethodName := ⟨RX6, "flood", "(II)I"⟩
abbrev cX6_ebb : ByteArray := prog_1_method_25_code
def yX6_ebb : MethodName := ⟨RX6, "ebb", "(I)I"⟩
abbrev cX6_route : ByteArray := prog_1_method_26_code
def yX6_route : MethodName := ⟨RX6, "route", "(III)I"⟩
abbrev cX6_best : ByteArray := prog_1_method_27_code
def yX6_best : MethodName := ⟨RX6, "best", "(I)I"⟩
abbrev cX6_gauge : ByteArray := prog_1_method_28_code
def yX6_gauge : MethodName := ⟨RX6, "gauge", "(III)I"⟩
abbrev cX6_cause : ByteArray := prog_1_method_29_code
def yX6_cause : MethodName := ⟨RX6, "cause", "(II)I"⟩
abbrev cX6_slack : ByteArray := prog_1_method_30_code
def yX6_slack : MethodName := ⟨RX6, "slack", "(I)I"⟩
abbrev cX6_fits : ByteArray := prog_1_method_31_code
def yX6_fits : MethodName := ⟨RX6, "fits", "()I"⟩
abbrev cX6_next : ByteArray := prog_1_method_32_code
def yX6_next : MethodName := ⟨RX6, "next", "(I)I"⟩
abbrev cX6_work : ByteArray := prog_1_method_33_code
def yX6_work : MethodName := ⟨RX6, "work", "(IIIII)I"⟩
abbrev cX6_cheapest : ByteArray := prog_1_method_34_code
def yX6_cheapest : MethodName := ⟨RX6, "cheapest", "(II)I"⟩
abbrev cX6_keep : ByteArray := prog_1_method_35_code
def yX6_keep : MethodName := ⟨RX6, "keep", "(I)I"⟩
abbrev cX6_back : ByteArray := prog_1_method_36_code
def yX6_back : MethodName := ⟨RX6, "back", "(I)I"⟩
abbrev cX6_count : ByteArray := prog_1_method_37_code
def yX6_count : MethodName := ⟨RX6, "count", "(I)I"⟩
abbrev cX6_trace : ByteArray := prog_1_method_38_code
def yX6_trace : MethodName := ⟨RX6, "trace", "()J"⟩
abbrev cX6_imageOf : ByteArray := prog_1_method_39_code
def yX6_imageOf : MethodName := ⟨RX6, "imageOf", "(I)LEarthBanks$Slice;"⟩
abbrev cX6_within : ByteArray := prog_1_method_40_code
def yX6_within : MethodName := ⟨RX6, "within", "(III)Z"⟩
abbrev cX6_isCell : ByteArray := prog_1_method_41_code
def yX6_isCell : MethodName := ⟨RX6, "isCell", "(II)Z"⟩
abbrev cX6_isZone : ByteArray := prog_1_method_42_code
def yX6_isZone : MethodName := ⟨RX6, "isZone", "(I)Z"⟩
abbrev cX6_isTrait : ByteArray := prog_1_method_43_code
def yX6_isTrait : MethodName := ⟨RX6, "isTrait", "(I)Z"⟩
abbrev cX6_isFlood : ByteArray := prog_1_method_44_code
def yX6_isFlood : MethodName := ⟨RX6, "isFlood", "(I)Z"⟩
abbrev cX6_isPoolWater : ByteArray := prog_1_method_45_code
def yX6_isPoolWater : MethodName := ⟨RX6, "isPoolWater", "(I)Z"⟩
abbrev cX6_placeOf : ByteArray := prog_1_method_46_code
def yX6_placeOf : MethodName := ⟨RX6, "placeOf", "(II)I"⟩
def RX7 : String := "EarthBanksModel"
def TX7 : u_T := fun k => match k with
  | 0 => ("EarthBanksModel", "thrown", "I", false)
  | 1 => ("EarthBanksModel", "trace", "J", false)
  | 2 => ("EarthBanksModel", "s", "[I", true)
  | 3 => ("EarthBanksModel", "kept", "[I", true)
  | 4 => ("EarthBanksModel", "isKept", "[Z", true)
  | 5 => ("EarthBanksModel", "saved", "[I", true)
  | 6 => ("EarthBanksModel", "draft", "[I", true)
  | 7 => ("EarthBanksModel", "text", "[I", true)
  | 8 => ("EarthBanksModel", "typed", "I", false)
  | 9 => ("EarthBanksModel", "next", "I", false)
  | 10 => ("EarthBanksModel", "token", "I", false)
  | 11 => ("EarthBanksModel", "place", "I", false)
  | 12 => ("EarthBanksModel", "value", "I", false)
  | 13 => ("EarthBanksModel", "fault", "I", false)
  | 14 => ("EarthBanksModel", "f", "I", false)
  | 15 => ("EarthBanksModel", "way", "[I", true)
  | 16 => ("EarthBanksModel", "best", "[I", true)
  | 17 => ("EarthBanksModel", "bestFrom", "I", false)
  | 18 => ("EarthBanksModel", "bestMargin", "I", false)
  | 19 => ("EarthBanksModel", "below", "I", false)
  | 20 => ("EarthBanksModel", "more", "[I", true)
  | 21 => ("EarthBanksModel", "isDry", "[Z", true)
  | 22 => ("EarthBanksModel", "pool", "[I", true)
  | 23 => ("EarthBanksModel", "hours", "[I", true)
  | 24 => ("EarthBanksModel", "water", "[I", true)
  | 25 => ("EarthBanksModel", "gauges", "I", false)
  | 26 => ("EarthBanksModel", "gauge", "[I", true)
  | 27 => ("EarthBanksModel", "causes", "I", false)
  | 28 => ("EarthBanksModel", "cause", "[I", true)
  | 29 => ("EarthBanksModel", "slack", "I", false)
  | 30 => ("EarthBanksModel", "most", "[I", true)
  | 31 => ("EarthBanksModel", "lows", "[I", true)
  | 32 => ("EarthBanksModel", "works", "I", false)
  | 33 => ("EarthBanksModel", "work", "[I", true)
  | 34 => ("EarthBanksModel", "poolEnd", "I", false)
  | 35 => ("EarthBanksModel", "poolOver", "I", false)
  | 36 => ("EarthBanksModel", "poolTown", "I", false)
  | _ => ("EarthBanksModel", "poolOut", "I", false)
def tyX7 : Nat → FieldType := fun k => match k with
  | 0 => .int
  | 1 => .long
  | 2 => .array .int
  | 3 => .array .int
  | 4 => .array .boolean
  | 5 => .array .int
  | 6 => .array .int
  | 7 => .array .int
  | 8 => .int
  | 9 => .int
  | 10 => .int
  | 11 => .int
  | 12 => .int
  | 13 => .int
  | 14 => .int
  | 15 => .array .int
  | 16 => .array .int
  | 17 => .int
  | 18 => .int
  | 19 => .int
  | 20 => .array .int
  | 21 => .array .boolean
  | 22 => .array .int
  | 23 => .array .int
  | 24 => .array .int
  | 25 => .int
  | 26 => .array .int
  | 27 => .int
  | 28 => .array .int
  | 29 => .int
  | 30 => .array .int
  | 31 => .array .int
  | 32 => .int
  | 33 => .array .int
  | 34 => .int
  | 35 => .int
  | 36 => .int
  | _ => .int
abbrev wsX70 : List Cond := u_ws RX7 TX7 38
theorem nmX7 : ∀ a, a < 38 → ∀ b, b < 38 → a ≠ b → (TX7 a).2.1 ≠ (TX7 b).2.1 := by decide +kernel
theorem tyX7_ok : ∀ k, k < 38 → parseFieldDescriptor (TX7 k).2.2.1 = some (tyX7 k) := by decide +kernel
abbrev cX7_init : ByteArray := prog_9_method_1_code
def yX7_init : MethodName := ⟨RX7, "<init>", "()V"⟩
abbrev cX7_in : ByteArray := prog_9_method_3_code
def yX7_in : MethodName := ⟨RX7, "in", "(III)Z"⟩
abbrev cX7_begins : ByteArray := prog_9_method_4_code
def yX7_begins : MethodName := ⟨RX7, "begins", "()V"⟩
abbrev cX7_isCell : ByteArray := prog_9_method_5_code
def yX7_isCell : MethodName := ⟨RX7, "isCell", "(II)Z"⟩
abbrev cX7_isEarth : ByteArray := prog_9_method_6_code
def yX7_isEarth : MethodName := ⟨RX7, "isEarth", "(I)Z"⟩
abbrev cX7_earth : ByteArray := prog_9_method_7_code
def yX7_earth : MethodName := ⟨RX7, "earth", "()I"⟩
abbrev cX7_pushOf : ByteArray := prog_9_method_8_code
def yX7_pushOf : MethodName := ⟨RX7, "pushOf", "(I)I"⟩
abbrev cX7_isWet : ByteArray := prog_9_method_9_code
def yX7_isWet : MethodName := ⟨RX7, "isWet", "(I)Z"⟩
abbrev cX7_holdOf : ByteArray := prog_9_method_10_code
def yX7_holdOf : MethodName := ⟨RX7, "holdOf", "(I)I"⟩
abbrev cX7_type : ByteArray := prog_9_method_11_code
def yX7_type : MethodName := ⟨RX7, "type", "(JI)I"⟩
abbrev cX7_clear : ByteArray := prog_9_method_12_code
def yX7_clear : MethodName := ⟨RX7, "clear", "()I"⟩
abbrev cX7_byteAt : ByteArray := prog_9_method_13_code
def yX7_byteAt : MethodName := ⟨RX7, "byteAt", "(I)I"⟩
abbrev cX7_isLetter : ByteArray := prog_9_method_14_code
def yX7_isLetter : MethodName := ⟨RX7, "isLetter", "(I)Z"⟩
abbrev cX7_advances : ByteArray := prog_9_method_15_code
def yX7_advances : MethodName := ⟨RX7, "advances", "()V"⟩
abbrev cX7_isWell : ByteArray := prog_9_method_16_code
def yX7_isWell : MethodName := ⟨RX7, "isWell", "()Z"⟩
abbrev cX7_fails : ByteArray := prog_9_method_17_code
def yX7_fails : MethodName := ⟨RX7, "fails", "()V"⟩
abbrev cX7_isWord : ByteArray := prog_9_method_18_code
def yX7_isWord : MethodName := ⟨RX7, "isWord", "(IIII)Z"⟩
abbrev cX7_takesNumber : ByteArray := prog_9_method_19_code
def yX7_takesNumber : MethodName := ⟨RX7, "takesNumber", "(II)I"⟩
abbrev cX7_readsZone : ByteArray := prog_9_method_20_code
def yX7_readsZone : MethodName := ⟨RX7, "readsZone", "()V"⟩
abbrev cX7_readsRow : ByteArray := prog_9_method_21_code
def yX7_readsRow : MethodName := ⟨RX7, "readsRow", "()V"⟩
abbrev cX7_dam : ByteArray := prog_9_method_22_code
def yX7_dam : MethodName := ⟨RX7, "dam", "()I"⟩
abbrev cX7_cell : ByteArray := prog_9_method_23_code
def yX7_cell : MethodName := ⟨RX7, "cell", "(III)I"⟩
abbrev cX7_zone : ByteArray := prog_9_method_24_code
def yX7_zone : MethodName := ⟨RX7, "zone", "(III)I"⟩
abbrev cX7_load : ByteArray := prog_9_method_25_code
def yX7_load : MethodName := ⟨RX7, "load", "(III)I"⟩
abbrev cX7_lake : ByteArray := prog_9_method_26_code
def yX7_lake : MethodName := ⟨RX7, "lake", "(I)I"⟩
abbrev cX7_beside : ByteArray := prog_9_method_27_code
def yX7_beside : MethodName := ⟨RX7, "beside", "(II)I"⟩
abbrev cX7_lesser : ByteArray := prog_9_method_28_code
def yX7_lesser : MethodName := ⟨RX7, "lesser", "(II)I"⟩
abbrev cX7_flowing : ByteArray := prog_9_method_29_code
def yX7_flowing : MethodName := ⟨RX7, "flowing", "(IZ)I"⟩
abbrev cX7_sweeps : ByteArray := prog_9_method_30_code
def yX7_sweeps : MethodName := ⟨RX7, "sweeps", "()V"⟩
abbrev cX7_wet : ByteArray := prog_9_method_31_code
def yX7_wet : MethodName := ⟨RX7, "wet", "()I"⟩
abbrev cX7_sweep : ByteArray := prog_9_method_32_code
def yX7_sweep : MethodName := ⟨RX7, "sweep", "(I)I"⟩
abbrev cX7_seep : ByteArray := prog_9_method_33_code
def yX7_seep : MethodName := ⟨RX7, "seep", "()I"⟩
abbrev cX7_dries : ByteArray := prog_9_method_34_code
def yX7_dries : MethodName := ⟨RX7, "dries", "()I"⟩
abbrev cX7_dry : ByteArray := prog_9_method_35_code
def yX7_dry : MethodName := ⟨RX7, "dry", "()I"⟩
abbrev cX7_nothing : ByteArray := prog_9_method_36_code
def yX7_nothing : MethodName := ⟨RX7, "nothing", "()V"⟩
abbrev cX7_counts : ByteArray := prog_9_method_37_code
def yX7_counts : MethodName := ⟨RX7, "counts", "(I)Z"⟩
abbrev cX7_marginOf : ByteArray := prog_9_method_38_code
def yX7_marginOf : MethodName := ⟨RX7, "marginOf", "(I)I"⟩
abbrev cX7_goes : ByteArray := prog_9_method_39_code
def yX7_goes : MethodName := ⟨RX7, "goes", "(I)V"⟩
abbrev cX7_least : ByteArray := prog_9_method_40_code
def yX7_least : MethodName := ⟨RX7, "least", "(I)I"⟩
abbrev cX7_ways : ByteArray := prog_9_method_41_code
def yX7_ways : MethodName := ⟨RX7, "ways", "(I)I"⟩
abbrev cX7_filter : ByteArray := prog_9_method_42_code
def yX7_filter : MethodName := ⟨RX7, "filter", "(I)I"⟩
abbrev cX7_isLoose : ByteArray := prog_9_method_43_code
def yX7_isLoose : MethodName := ⟨RX7, "isLoose", "(I)Z"⟩
abbrev cX7_days : ByteArray := prog_9_method_44_code
def yX7_days : MethodName := ⟨RX7, "days", "()I"⟩
abbrev cX7_day : ByteArray := prog_9_method_45_code
def yX7_day : MethodName := ⟨RX7, "day", "()I"⟩
abbrev cX7_saves : ByteArray := prog_9_method_46_code
def yX7_saves : MethodName := ⟨RX7, "saves", "(Z)V"⟩
abbrev cX7_breaks : ByteArray := prog_9_method_47_code
def yX7_breaks : MethodName := ⟨RX7, "breaks", "()I"⟩
abbrev cX7_breach : ByteArray := prog_9_method_48_code
def yX7_breach : MethodName := ⟨RX7, "breach", "()I"⟩
abbrev cX7_fills : ByteArray := prog_9_method_49_code
def yX7_fills : MethodName := ⟨RX7, "fills", "(I)V"⟩
abbrev cX7_highest : ByteArray := prog_9_method_50_code
def yX7_highest : MethodName := ⟨RX7, "highest", "()I"⟩
abbrev cX7_pool : ByteArray := prog_9_method_51_code
def yX7_pool : MethodName := ⟨RX7, "pool", "(II)I"⟩
abbrev cX7_flood : ByteArray := prog_9_method_52_code
def yX7_flood : MethodName := ⟨RX7, "flood", "(II)I"⟩
abbrev cX7_ebb : ByteArray := prog_9_method_53_code
def yX7_ebb : MethodName := ⟨RX7, "ebb", "(I)I"⟩
abbrev cX7_routes : ByteArray := prog_9_method_54_code
def yX7_routes : MethodName := ⟨RX7, "routes", "(II)V"⟩
abbrev cX7_isSafe : ByteArray := prog_9_method_55_code
def yX7_isSafe : MethodName := ⟨RX7, "isSafe", "(II)Z"⟩
abbrev cX7_route : ByteArray := prog_9_method_56_code
def yX7_route : MethodName := ⟨RX7, "route", "(III)I"⟩
abbrev cX7_best : ByteArray := prog_9_method_57_code
def yX7_best : MethodName := ⟨RX7, "best", "(I)I"⟩
abbrev cX7_gauge : ByteArray := prog_9_method_58_code
def yX7_gauge : MethodName := ⟨RX7, "gauge", "(III)I"⟩
abbrev cX7_cause : ByteArray := prog_9_method_59_code
def yX7_cause : MethodName := ⟨RX7, "cause", "(II)I"⟩
abbrev cX7_slack : ByteArray := prog_9_method_60_code
def yX7_slack : MethodName := ⟨RX7, "slack", "(I)I"⟩
abbrev cX7_fitting : ByteArray := prog_9_method_61_code
def yX7_fitting : MethodName := ⟨RX7, "fitting", "()I"⟩
abbrev cX7_fits : ByteArray := prog_9_method_62_code
def yX7_fits : MethodName := ⟨RX7, "fits", "()I"⟩
abbrev cX7_next : ByteArray := prog_9_method_63_code
def yX7_next : MethodName := ⟨RX7, "next", "(I)I"⟩
abbrev cX7_work : ByteArray := prog_9_method_64_code
def yX7_work : MethodName := ⟨RX7, "work", "(IIIII)I"⟩
abbrev cX7_cheapest : ByteArray := prog_9_method_65_code
def yX7_cheapest : MethodName := ⟨RX7, "cheapest", "(II)I"⟩
abbrev cX7_keep : ByteArray := prog_9_method_66_code
def yX7_keep : MethodName := ⟨RX7, "keep", "(I)I"⟩
abbrev cX7_back : ByteArray := prog_9_method_67_code
def yX7_back : MethodName := ⟨RX7, "back", "(I)I"⟩
abbrev cX7_count : ByteArray := prog_9_method_68_code
def yX7_count : MethodName := ⟨RX7, "count", "(I)I"⟩
abbrev cX7_trace : ByteArray := prog_9_method_69_code
def yX7_trace : MethodName := ⟨RX7, "trace", "()J"⟩
def RJ6 : String := "java/lang/Integer"
def TJ6 : u_T := fun k => match k with
  | _ => ("", "", "", false)
def tyJ6 : Nat → FieldType := fun k => match k with
  | _ => .int
abbrev wsJ60 : List Cond := u_ws RJ6 TJ6 0
theorem nmJ6 : ∀ a, a < 0 → ∀ b, b < 0 → a ≠ b → (TJ6 a).2.1 ≠ (TJ6 b).2.1 := by decide +kernel
theorem tyJ6_ok : ∀ k, k < 0 → parseFieldDescriptor (TJ6 k).2.2.1 = some (tyJ6 k) := by decide +kernel
abbrev cJ6_bitCount_0f7a4 : ByteArray := prog_10_method_49_code
def yJ6_bitCount_0f7a4 : MethodName := ⟨RJ6, "bitCount", "(I)I"⟩
def RJ9 : String := "java/lang/Math"
def TJ9 : u_T := fun k => match k with
  | _ => ("", "", "", false)
def tyJ9 : Nat → FieldType := fun k => match k with
  | _ => .int
abbrev wsJ90 : List Cond := u_ws RJ9 TJ9 0
theorem nmJ9 : ∀ a, a < 0 → ∀ b, b < 0 → a ≠ b → (TJ9 a).2.1 ≠ (TJ9 b).2.1 := by decide +kernel
theorem tyJ9_ok : ∀ k, k < 0 → parseFieldDescriptor (TJ9 k).2.2.1 = some (tyJ9 k) := by decide +kernel
abbrev cJ9_abs_0f7a4 : ByteArray := prog_11_method_59_code
def yJ9_abs_0f7a4 : MethodName := ⟨RJ9, "abs", "(I)I"⟩
abbrev cJ9_max_7cf53 : ByteArray := prog_11_method_65_code
def yJ9_max_7cf53 : MethodName := ⟨RJ9, "max", "(II)I"⟩
abbrev cJ9_min_7cf53 : ByteArray := prog_11_method_69_code
def yJ9_min_7cf53 : MethodName := ⟨RJ9, "min", "(II)I"⟩
def RJ0 : String := "java/lang/String"
def TJ0 : u_T := fun k => match k with
  | _ => ("", "", "", false)
def tyJ0 : Nat → FieldType := fun k => match k with
  | _ => .int
abbrev wsJ00 : List Cond := u_ws RJ0 TJ0 0
theorem nmJ0 : ∀ a, a < 0 → ∀ b, b < 0 → a ≠ b → (TJ0 a).2.1 ≠ (TJ0 b).2.1 := by decide +kernel
theorem tyJ0_ok : ∀ k, k < 0 → parseFieldDescriptor (TJ0 k).2.2.1 = some (tyJ0 k) := by decide +kernel
abbrev cJ0_length_8abf5 : ByteArray := prog_12_method_54_code
def yJ0_length_8abf5 : MethodName := ⟨RJ0, "length", "()I"⟩
abbrev cJ0_charAt_5068e : ByteArray := prog_12_method_56_code
def yJ0_charAt_5068e : MethodName := ⟨RJ0, "charAt", "(I)C"⟩
abbrev cJ0_coder_7d493 : ByteArray := prog_12_method_152_code
def yJ0_coder_7d493 : MethodName := ⟨RJ0, "coder", "()B"⟩
abbrev cJ0_isLatin1_aae02 : ByteArray := prog_12_method_154_code
def yJ0_isLatin1_aae02 : MethodName := ⟨RJ0, "isLatin1", "()Z"⟩
abbrev cJ0_checkIndex_df160 : ByteArray := prog_12_method_155_code
def yJ0_checkIndex_df160 : MethodName := ⟨RJ0, "checkIndex", "(II)V"⟩
def RJ1 : String := "java/lang/StringLatin1"
def TJ1 : u_T := fun k => match k with
  | _ => ("", "", "", false)
def tyJ1 : Nat → FieldType := fun k => match k with
  | _ => .int
abbrev wsJ10 : List Cond := u_ws RJ1 TJ1 0
theorem nmJ1 : ∀ a, a < 0 → ∀ b, b < 0 → a ≠ b → (TJ1 a).2.1 ≠ (TJ1 b).2.1 := by decide +kernel
theorem tyJ1_ok : ∀ k, k < 0 → parseFieldDescriptor (TJ1 k).2.2.1 = some (tyJ1 k) := by decide +kernel
abbrev cJ1_charAt_3b067 : ByteArray := prog_13_method_2_code
def yJ1_charAt_3b067 : MethodName := ⟨RJ1, "charAt", "([BI)C"⟩
def RJ2 : String := "java/lang/StringUTF16"
def TJ2 : u_T := fun k => match k with
  | _ => ("", "", "", false)
def tyJ2 : Nat → FieldType := fun k => match k with
  | _ => .int
abbrev wsJ20 : List Cond := u_ws RJ2 TJ2 0
theorem nmJ2 : ∀ a, a < 0 → ∀ b, b < 0 → a ≠ b → (TJ2 a).2.1 ≠ (TJ2 b).2.1 := by decide +kernel
theorem tyJ2_ok : ∀ k, k < 0 → parseFieldDescriptor (TJ2 k).2.2.1 = some (tyJ2 k) := by decide +kernel
abbrev cJ2_getChar_3b067 : ByteArray := prog_14_method_5_code
def yJ2_getChar_3b067 : MethodName := ⟨RJ2, "getChar", "([BI)C"⟩
abbrev cJ2_length_9d52b : ByteArray := prog_14_method_6_code
def yJ2_length_9d52b : MethodName := ⟨RJ2, "length", "([B)I"⟩
abbrev cJ2_charAt_3b067 : ByteArray := prog_14_method_83_code
def yJ2_charAt_3b067 : MethodName := ⟨RJ2, "charAt", "([BI)C"⟩
abbrev cJ2_checkIndex_2214a : ByteArray := prog_14_method_91_code
def yJ2_checkIndex_2214a : MethodName := ⟨RJ2, "checkIndex", "(I[B)V"⟩
def RJ10 : String := "java/lang/System"
def TJ10 : u_T := fun k => match k with
  | _ => ("", "", "", false)
def tyJ10 : Nat → FieldType := fun k => match k with
  | _ => .int
abbrev wsJ100 : List Cond := u_ws RJ10 TJ10 0
theorem nmJ10 : ∀ a, a < 0 → ∀ b, b < 0 → a ≠ b → (TJ10 a).2.1 ≠ (TJ10 b).2.1 := by decide +kernel
theorem tyJ10_ok : ∀ k, k < 0 → parseFieldDescriptor (TJ10 k).2.2.1 = some (tyJ10 k) := by decide +kernel
def RJ7 : String := "java/util/Arrays"
def TJ7 : u_T := fun k => match k with
  | _ => ("", "", "", false)
def tyJ7 : Nat → FieldType := fun k => match k with
  | _ => .int
abbrev wsJ70 : List Cond := u_ws RJ7 TJ7 0
theorem nmJ7 : ∀ a, a < 0 → ∀ b, b < 0 → a ≠ b → (TJ7 a).2.1 ≠ (TJ7 b).2.1 := by decide +kernel
theorem tyJ7_ok : ∀ k, k < 0 → parseFieldDescriptor (TJ7 k).2.2.1 = some (tyJ7 k) := by decide +kernel
abbrev cJ7_fill_53178 : ByteArray := prog_16_method_103_code
def yJ7_fill_53178 : MethodName := ⟨RJ7, "fill", "([II)V"⟩
def RJ3 : String := "jdk/internal/util/Preconditions"
def TJ3 : u_T := fun k => match k with
  | _ => ("", "", "", false)
def tyJ3 : Nat → FieldType := fun k => match k with
  | _ => .int
abbrev wsJ30 : List Cond := u_ws RJ3 TJ3 0
theorem nmJ3 : ∀ a, a < 0 → ∀ b, b < 0 → a ≠ b → (TJ3 a).2.1 ≠ (TJ3 b).2.1 := by decide +kernel
theorem tyJ3_ok : ∀ k, k < 0 → parseFieldDescriptor (TJ3 k).2.2.1 = some (tyJ3 k) := by decide +kernel
abbrev cJ3_checkIndex_8e157 : ByteArray := prog_17_method_11_code
def yJ3_checkIndex_8e157 : MethodName := ⟨RJ3, "checkIndex", "(IILjava/util/function/BiFunction;)I"⟩
def RL : String := "EarthBanksLaw"
abbrev cL_law : ByteArray := code
def yL_law : MethodName := ⟨RL, "law", "([I)Z"⟩
def wsL_law_r1 : List Cond := [Cond.classLink RL 7 RX6, Cond.instantiable RX6 12, Cond.initialized RX6, Cond.classLink RL 10 RX7, Cond.instantiable RX7 38, Cond.initialized RX7, Cond.constantLong RL 13 (4294967295), Cond.methodLink RL 9 yX6_init, Cond.instanceMethod yX6_init, Cond.code yX6_init cX6_init 1 none, Cond.methodLink RX6 3 objectInit, Cond.instanceMethod objectInit, Cond.code objectInit ⟨#[0xb1]⟩ 1 none, Cond.classLink RX6 9 RX0, Cond.instantiable RX0 6, Cond.initialized RX0, Cond.fieldLink RX6 12 "EarthBanks" "text" "LEarthBanks$DamText;", Cond.classLink RX6 16 RX2, Cond.instantiable RX2 9, Cond.initialized RX2, Cond.fieldLink RX6 19 "EarthBanks" "slice" "LEarthBanks$Slice;", Cond.fieldLink RX6 23 "EarthBanks" "trial" "LEarthBanks$Slice;", Cond.fieldLink RX6 26 "EarthBanks" "firstImage" "LEarthBanks$Slice;", Cond.fieldLink RX6 29 "EarthBanks" "secondImage" "LEarthBanks$Slice;"]
def wsL_law_r2 : List Cond := [Cond.arrayClass .int, Cond.fieldLink RX6 32 "EarthBanks" "kept" "[I", Cond.classLink RX6 36 RX5, Cond.instantiable RX5 5, Cond.initialized RX5, Cond.fieldLink RX6 39 "EarthBanks" "works" "LEarthBanks$Works;", Cond.classLink RX6 43 RX3, Cond.instantiable RX3 11, Cond.initialized RX3, Cond.fieldLink RX6 46 "EarthBanks" "slides" "LEarthBanks$Slides;", Cond.classLink RX6 50 RX1, Cond.instantiable RX1 7, Cond.initialized RX1, Cond.fieldLink RX6 53 "EarthBanks" "reservoir" "LEarthBanks$Reservoir;", Cond.classLink RX6 57 RX4, Cond.instantiable RX4 9, Cond.initialized RX4, Cond.fieldLink RX6 60 "EarthBanks" "watch" "LEarthBanks$Watch;", Cond.fieldLink RX6 64 "EarthBanks" "filterFactor" "I", Cond.fieldLink RX6 68 "EarthBanks" "traced" "J", Cond.instanceMethod yX0_init, Cond.code yX0_init cX0_init 1 none, Cond.methodLink RX0 3 objectInit, Cond.fieldLink RX0 11 "EarthBanks$DamText" "bytes" "[I"]
def wsL_law_r3 : List Cond := [Cond.fieldLink RX0 15 "EarthBanks$DamText" "length" "I", Cond.fieldLink RX0 19 "EarthBanks$DamText" "sort" "I", Cond.fieldLink RX0 22 "EarthBanks$DamText" "first" "I", Cond.fieldLink RX0 25 "EarthBanks$DamText" "behind" "I", Cond.fieldLink RX0 28 "EarthBanks$DamText" "value" "I", Cond.methodLink RX6 18 yX2_init, Cond.instanceMethod yX2_init, Cond.code yX2_init cX2_init 1 none, Cond.methodLink RX2 3 objectInit, Cond.fieldLink RX2 9 "EarthBanks$Slice" "zones" "[I", Cond.fieldLink RX2 15 "EarthBanks$Slice" "heads" "[I", Cond.fieldLink RX2 18 "EarthBanks$Slice" "gone" "[I", Cond.fieldLink RX2 21 "EarthBanks$Slice" "leads" "[I", Cond.fieldLink RX2 24 "EarthBanks$Slice" "holds" "[I", Cond.fieldLink RX2 27 "EarthBanks$Slice" "grains" "[I", Cond.fieldLink RX2 30 "EarthBanks$Slice" "lakeLevel" "I", Cond.fieldLink RX2 34 "EarthBanks$Slice" "leaving" "[I", Cond.fieldLink RX2 37 "EarthBanks$Slice" "passing" "[I", Cond.methodLink RX2 40 yX2_makeBlank, Cond.instanceMethod yX2_makeBlank, Cond.selects RX2 yX2_makeBlank yX2_makeBlank, Cond.code yX2_makeBlank cX2_makeBlank 1 none, Cond.methodLink RX2 43 yJ7_fill_53178, Cond.static yJ7_fill_53178]
def wsL_law_r4 : List Cond := [Cond.initialized RJ7, Cond.code yJ7_fill_53178 cJ7_fill_53178 4 none, Cond.instanceMethod yX5_init, Cond.code yX5_init cX5_init 1 none, Cond.methodLink RX5 3 objectInit, Cond.fieldLink RX5 9 "EarthBanks$Works" "kinds" "[I", Cond.fieldLink RX5 15 "EarthBanks$Works" "places" "[I", Cond.fieldLink RX5 18 "EarthBanks$Works" "mores" "[I", Cond.fieldLink RX5 21 "EarthBanks$Works" "prices" "[I", Cond.fieldLink RX5 24 "EarthBanks$Works" "size" "I", Cond.instanceMethod yX3_init, Cond.code yX3_init cX3_init 1 none, Cond.methodLink RX3 3 objectInit, Cond.fieldLink RX3 9 "EarthBanks$Slides" "rests" "[I", Cond.fieldLink RX3 15 "EarthBanks$Slides" "burdens" "[I", Cond.fieldLink RX3 18 "EarthBanks$Slides" "heights" "[I", Cond.fieldLink RX3 21 "EarthBanks$Slides" "start" "I", Cond.fieldLink RX3 25 "EarthBanks$Slides" "aim" "I", Cond.fieldLink RX3 28 "EarthBanks$Slides" "balances" "[I", Cond.fieldLink RX3 31 "EarthBanks$Slides" "found" "Z", Cond.fieldLink RX3 35 "EarthBanks$Slides" "belowAim" "I", Cond.fieldLink RX3 38 "EarthBanks$Slides" "leastMargin" "I", Cond.fieldLink RX3 41 "EarthBanks$Slides" "leastStart" "I", Cond.fieldLink RX3 44 "EarthBanks$Slides" "leastHeights" "[I"]
def wsL_law_r5 : List Cond := [Cond.instanceMethod yX1_init, Cond.code yX1_init cX1_init 1 none, Cond.methodLink RX1 3 objectInit, Cond.fieldLink RX1 9 "EarthBanks$Reservoir" "settings" "[I", Cond.fieldLink RX1 15 "EarthBanks$Reservoir" "waters" "[I", Cond.fieldLink RX1 18 "EarthBanks$Reservoir" "hours" "[I", Cond.fieldLink RX1 21 "EarthBanks$Reservoir" "water" "I", Cond.fieldLink RX1 25 "EarthBanks$Reservoir" "hoursOver" "I", Cond.fieldLink RX1 28 "EarthBanks$Reservoir" "town" "I", Cond.fieldLink RX1 31 "EarthBanks$Reservoir" "letOut" "I", Cond.instanceMethod yX4_init, Cond.code yX4_init cX4_init 1 none, Cond.methodLink RX4 3 objectInit, Cond.fieldLink RX4 9 "EarthBanks$Watch" "gaugePlaces" "[I", Cond.fieldLink RX4 15 "EarthBanks$Watch" "gaugeReads" "[I", Cond.fieldLink RX4 18 "EarthBanks$Watch" "causeZones" "[I", Cond.fieldLink RX4 21 "EarthBanks$Watch" "causeLeads" "[I", Cond.fieldLink RX4 24 "EarthBanks$Watch" "leastHeads" "[I", Cond.fieldLink RX4 27 "EarthBanks$Watch" "greatestHeads" "[I", Cond.fieldLink RX4 30 "EarthBanks$Watch" "gauges" "I", Cond.fieldLink RX4 34 "EarthBanks$Watch" "causes" "I", Cond.fieldLink RX4 37 "EarthBanks$Watch" "slackAllowed" "I", Cond.methodLink RL 12 yX7_init, Cond.instanceMethod yX7_init]
def wsL_law_r6 : List Cond := [Cond.code yX7_init cX7_init 1 none, Cond.methodLink RX7 1 objectInit, Cond.fieldLink RX7 7 "EarthBanksModel" "s" "[I", Cond.fieldLink RX7 13 "EarthBanksModel" "kept" "[I", Cond.arrayClass .boolean, Cond.fieldLink RX7 16 "EarthBanksModel" "isKept" "[Z", Cond.fieldLink RX7 20 "EarthBanksModel" "saved" "[I", Cond.fieldLink RX7 23 "EarthBanksModel" "draft" "[I", Cond.fieldLink RX7 26 "EarthBanksModel" "text" "[I", Cond.fieldLink RX7 29 "EarthBanksModel" "f" "I", Cond.fieldLink RX7 33 "EarthBanksModel" "way" "[I", Cond.fieldLink RX7 36 "EarthBanksModel" "best" "[I", Cond.fieldLink RX7 39 "EarthBanksModel" "more" "[I", Cond.fieldLink RX7 42 "EarthBanksModel" "isDry" "[Z", Cond.fieldLink RX7 45 "EarthBanksModel" "pool" "[I", Cond.fieldLink RX7 48 "EarthBanksModel" "hours" "[I", Cond.fieldLink RX7 51 "EarthBanksModel" "water" "[I", Cond.fieldLink RX7 54 "EarthBanksModel" "gauge" "[I", Cond.fieldLink RX7 57 "EarthBanksModel" "cause" "[I", Cond.fieldLink RX7 60 "EarthBanksModel" "slack" "I", Cond.fieldLink RX7 63 "EarthBanksModel" "most" "[I", Cond.fieldLink RX7 66 "EarthBanksModel" "lows" "[I", Cond.fieldLink RX7 69 "EarthBanksModel" "work" "[I", Cond.methodLink RX7 72 yX7_begins]
def wsL_law_r7 : List Cond := [Cond.instanceMethod yX7_begins, Cond.selects RX7 yX7_begins yX7_begins, Cond.code yX7_begins cX7_begins 2 none, Cond.methodLink RL 15 yX6_type, Cond.instanceMethod yX6_type, Cond.selects RX6 yX6_type yX6_type, Cond.code yX6_type cX6_type 4 (some .int), Cond.fieldLink RX6 80 "EarthBanks$DamText" "length" "I", Cond.methodLink RX6 72 yX6_within, Cond.static yX6_within, Cond.code yX6_within cX6_within 3 (some .boolean), Cond.methodLink RX6 76 yX0_append, Cond.instanceMethod yX0_append, Cond.selects RX0 yX0_append yX0_append, Cond.code yX0_append cX0_append 5 (some .boolean), Cond.methodLink RL 19 yX7_type, Cond.instanceMethod yX7_type, Cond.selects RX7 yX7_type yX7_type, Cond.code yX7_type cX7_type 5 (some .int), Cond.fieldLink RX7 75 "EarthBanksModel" "thrown" "I", Cond.fieldLink RX7 90 "EarthBanksModel" "typed" "I", Cond.constantLong RX7 93 (255), Cond.methodLink RX7 78 yX7_in, Cond.static yX7_in]
def wsL_law_r8 : List Cond := [Cond.code yX7_in cX7_in 3 (some .boolean), Cond.methodLink RL 20 yX6_clear, Cond.instanceMethod yX6_clear, Cond.selects RX6 yX6_clear yX6_clear, Cond.code yX6_clear cX6_clear 1 (some .int), Cond.methodLink RX6 83 yX0_drop, Cond.instanceMethod yX0_drop, Cond.selects RX0 yX0_drop yX0_drop, Cond.code yX0_drop cX0_drop 2 (some .int), Cond.methodLink RL 24 yX7_clear, Cond.instanceMethod yX7_clear, Cond.selects RX7 yX7_clear yX7_clear, Cond.code yX7_clear cX7_clear 2 (some .int), Cond.methodLink RL 25 yX6_dam, Cond.instanceMethod yX6_dam, Cond.selects RX6 yX6_dam yX6_dam, Cond.code yX6_dam cX6_dam 2 (some .int), Cond.fieldLink RX6 91 "EarthBanks$Slice" "lakeLevel" "I", Cond.methodLink RX6 87 yX0_readInto, Cond.instanceMethod yX0_readInto, Cond.selects RX0 yX0_readInto yX0_readInto, Cond.code yX0_readInto cX0_readInto 4 (some .int), Cond.methodLink RX0 31 yX2_makeBlank, Cond.methodLink RX0 36 yX0_takeToken]
def wsL_law_r9 : List Cond := [Cond.instanceMethod yX0_takeToken, Cond.selects RX0 yX0_takeToken yX0_takeToken, Cond.code yX0_takeToken cX0_takeToken 2 none, Cond.methodLink RX0 99 yX0_isWordSign, Cond.static yX0_isWordSign, Cond.code yX0_isWordSign cX0_isWordSign 1 (some .boolean), Cond.methodLink RX0 102 yX0_takeWord, Cond.instanceMethod yX0_takeWord, Cond.selects RX0 yX0_takeWord yX0_takeWord, Cond.code yX0_takeWord cX0_takeWord 1 none, Cond.methodLink RX0 105 yX0_isDigit, Cond.static yX0_isDigit, Cond.code yX0_isDigit cX0_isDigit 1 (some .boolean), Cond.methodLink RX0 108 yX0_takeDigits, Cond.instanceMethod yX0_takeDigits, Cond.selects RX0 yX0_takeDigits yX0_takeDigits, Cond.code yX0_takeDigits cX0_takeDigits 2 none, Cond.methodLink RX0 111 Lib.Math.min.name, Cond.static Lib.Math.min.name, Cond.initialized "java/lang/Math", Cond.code Lib.Math.min.name Lib.Math.min.code 2 (some .int), Cond.methodLink RX0 41 yX0_isWord, Cond.instanceMethod yX0_isWord, Cond.selects RX0 yX0_isWord yX0_isWord]
def wsL_law_r10 : List Cond := [Cond.code yX0_isWord cX0_isWord 3 (some .boolean), Cond.methodLink RX0 90 yJ0_length_8abf5, Cond.instanceMethod yJ0_length_8abf5, Cond.selects RJ0 yJ0_length_8abf5 yJ0_length_8abf5, Cond.initialized RJ0, Cond.code yJ0_length_8abf5 cJ0_length_8abf5 1 (some .int), Cond.fieldLink RJ0 9 "java/lang/String" "value" "[B", Cond.methodLink RJ0 335 yJ0_coder_7d493, Cond.instanceMethod yJ0_coder_7d493, Cond.selects RJ0 yJ0_coder_7d493 yJ0_coder_7d493, Cond.code yJ0_coder_7d493 cJ0_coder_7d493 1 (some .byte), Cond.fieldLink RJ0 38 "java/lang/String" "COMPACT_STRINGS" "Z", Cond.fieldLink RJ0 15 "java/lang/String" "coder" "B", Cond.methodLink RX0 95 yJ0_charAt_5068e, Cond.instanceMethod yJ0_charAt_5068e, Cond.selects RJ0 yJ0_charAt_5068e yJ0_charAt_5068e, Cond.code yJ0_charAt_5068e cJ0_charAt_5068e 2 (some .char), Cond.methodLink RJ0 492 yJ0_isLatin1_aae02, Cond.instanceMethod yJ0_isLatin1_aae02, Cond.selects RJ0 yJ0_isLatin1_aae02 yJ0_isLatin1_aae02, Cond.code yJ0_isLatin1_aae02 cJ0_isLatin1_aae02 1 (some .boolean), Cond.methodLink RJ0 495 yJ1_charAt_3b067, Cond.static yJ1_charAt_3b067, Cond.initialized RJ1]
def wsL_law_r11 : List Cond := [Cond.code yJ1_charAt_3b067 cJ1_charAt_3b067 2 (some .char), Cond.methodLink RJ1 9 yJ0_checkIndex_df160, Cond.static yJ0_checkIndex_df160, Cond.code yJ0_checkIndex_df160 cJ0_checkIndex_df160 2 none, Cond.fieldLink RJ0 1053 "jdk/internal/util/Preconditions" "SIOOBE_FORMATTER" "Ljava/util/function/BiFunction;", Cond.methodLink RJ0 1059 yJ3_checkIndex_8e157, Cond.static yJ3_checkIndex_8e157, Cond.initialized RJ3, Cond.code yJ3_checkIndex_8e157 cJ3_checkIndex_8e157 3 (some .int), Cond.methodLink RJ0 498 yJ2_charAt_3b067, Cond.static yJ2_charAt_3b067, Cond.initialized RJ2, Cond.code yJ2_charAt_3b067 cJ2_charAt_3b067 2 (some .char), Cond.methodLink RJ2 67 yJ2_checkIndex_2214a, Cond.static yJ2_checkIndex_2214a, Cond.code yJ2_checkIndex_2214a cJ2_checkIndex_2214a 2 none, Cond.methodLink RJ2 48 yJ2_length_9d52b, Cond.static yJ2_length_9d52b, Cond.code yJ2_length_9d52b cJ2_length_9d52b 1 (some .int), Cond.methodLink RJ2 414 yJ0_checkIndex_df160, Cond.methodLink RJ2 71 yJ2_getChar_3b067, Cond.static yJ2_getChar_3b067, Cond.code yJ2_getChar_3b067 cJ2_getChar_3b067 2 (some .char), Cond.fieldLink RJ2 44 "java/lang/StringUTF16" "$assertionsDisabled" "Z"]
def wsL_law_r12 : List Cond := [Cond.fieldLink RJ2 59 "java/lang/StringUTF16" "HI_BYTE_SHIFT" "I", Cond.fieldLink RJ2 63 "java/lang/StringUTF16" "LO_BYTE_SHIFT" "I", Cond.methodLink RX0 45 yX0_readZone, Cond.instanceMethod yX0_readZone, Cond.selects RX0 yX0_readZone yX0_readZone, Cond.code yX0_readZone cX0_readZone 3 (some .boolean), Cond.fieldLink RX0 66 "EarthBanks$Slice" "leads" "[I", Cond.fieldLink RX0 69 "EarthBanks$Slice" "holds" "[I", Cond.fieldLink RX0 72 "EarthBanks$Slice" "grains" "[I", Cond.methodLink RX0 54 yX0_zoneOf, Cond.static yX0_zoneOf, Cond.code yX0_zoneOf cX0_zoneOf 1 (some .int), Cond.static yX6_isZone, Cond.code yX6_isZone cX6_isZone 1 (some .boolean), Cond.methodLink RX0 62 yX0_takeNumber, Cond.instanceMethod yX0_takeNumber, Cond.selects RX0 yX0_takeNumber yX0_takeNumber, Cond.code yX0_takeNumber cX0_takeNumber 3 (some .boolean), Cond.methodLink RX0 75 yX0_takeStop, Cond.instanceMethod yX0_takeStop, Cond.selects RX0 yX0_takeStop yX0_takeStop, Cond.code yX0_takeStop cX0_takeStop 1 (some .boolean), Cond.methodLink RX0 51 yX0_readRow, Cond.instanceMethod yX0_readRow]
def wsL_law_r13 : List Cond := [Cond.selects RX0 yX0_readRow yX0_readRow, Cond.code yX0_readRow cX0_readRow 5 (some .boolean), Cond.fieldLink RX0 79 "EarthBanks$Slice" "zones" "[I", Cond.static yX6_placeOf, Cond.code yX6_placeOf cX6_placeOf 2 (some .int), Cond.methodLink RX6 94 yX2_copy, Cond.instanceMethod yX2_copy, Cond.selects RX2 yX2_copy yX2_copy, Cond.code yX2_copy cX2_copy 2 none, Cond.methodLink RX2 49 arraycopyName, Cond.native arraycopyName, Cond.static arraycopyName, Cond.initialized "java/lang/System", Cond.methodLink RX6 98 yX2_earthCells, Cond.instanceMethod yX2_earthCells, Cond.selects RX2 yX2_earthCells yX2_earthCells, Cond.code yX2_earthCells cX2_earthCells 3 (some .int), Cond.methodLink RX2 65 yX2_isEarth, Cond.instanceMethod yX2_isEarth, Cond.selects RX2 yX2_isEarth yX2_isEarth, Cond.code yX2_isEarth cX2_isEarth 2 (some .boolean), Cond.methodLink RX2 55 yX2_isAir, Cond.instanceMethod yX2_isAir, Cond.selects RX2 yX2_isAir yX2_isAir]
def wsL_law_r14 : List Cond := [Cond.code yX2_isAir cX2_isAir 3 (some .boolean), Cond.methodLink RL 28 yX7_dam, Cond.instanceMethod yX7_dam, Cond.selects RX7 yX7_dam yX7_dam, Cond.code yX7_dam cX7_dam 3 (some .int), Cond.fieldLink RX7 113 "EarthBanksModel" "fault" "I", Cond.fieldLink RX7 95 "EarthBanksModel" "next" "I", Cond.fieldLink RX7 104 "EarthBanksModel" "token" "I", Cond.methodLink RX7 123 yX7_advances, Cond.instanceMethod yX7_advances, Cond.selects RX7 yX7_advances yX7_advances, Cond.code yX7_advances cX7_advances 2 none, Cond.fieldLink RX7 101 "EarthBanksModel" "place" "I", Cond.fieldLink RX7 110 "EarthBanksModel" "value" "I", Cond.methodLink RX7 98 yX7_byteAt, Cond.instanceMethod yX7_byteAt, Cond.selects RX7 yX7_byteAt yX7_byteAt, Cond.code yX7_byteAt cX7_byteAt 2 (some .int), Cond.methodLink RX7 107 yX7_isLetter, Cond.static yX7_isLetter, Cond.code yX7_isLetter cX7_isLetter 1 (some .boolean), Cond.methodLink RX7 116 yX7_isWell, Cond.instanceMethod yX7_isWell, Cond.selects RX7 yX7_isWell yX7_isWell]
def wsL_law_r15 : List Cond := [Cond.code yX7_isWell cX7_isWell 1 (some .boolean), Cond.methodLink RX7 130 yX7_isWord, Cond.instanceMethod yX7_isWord, Cond.selects RX7 yX7_isWord yX7_isWord, Cond.code yX7_isWord cX7_isWord 6 (some .boolean), Cond.methodLink RX7 120 yX7_fails, Cond.instanceMethod yX7_fails, Cond.selects RX7 yX7_fails yX7_fails, Cond.code yX7_fails cX7_fails 1 none, Cond.methodLink RX7 134 yX7_readsZone, Cond.instanceMethod yX7_readsZone, Cond.selects RX7 yX7_readsZone yX7_readsZone, Cond.code yX7_readsZone cX7_readsZone 3 none, Cond.methodLink RX7 126 yX7_takesNumber, Cond.instanceMethod yX7_takesNumber, Cond.selects RX7 yX7_takesNumber yX7_takesNumber, Cond.code yX7_takesNumber cX7_takesNumber 4 (some .int), Cond.methodLink RX7 137 yX7_readsRow, Cond.instanceMethod yX7_readsRow, Cond.selects RX7 yX7_readsRow yX7_readsRow, Cond.code yX7_readsRow cX7_readsRow 5 none, Cond.methodLink RX7 140 yX7_earth, Cond.instanceMethod yX7_earth, Cond.selects RX7 yX7_earth yX7_earth]
def wsL_law_r16 : List Cond := [Cond.code yX7_earth cX7_earth 3 (some .int), Cond.methodLink RX7 82 yX7_isEarth, Cond.instanceMethod yX7_isEarth, Cond.selects RX7 yX7_isEarth yX7_isEarth, Cond.code yX7_isEarth cX7_isEarth 2 (some .boolean), Cond.methodLink RL 29 yX6_cell, Cond.instanceMethod yX6_cell, Cond.selects RX6 yX6_cell yX6_cell, Cond.code yX6_cell cX6_cell 6 (some .int), Cond.fieldLink RX6 113 "EarthBanks$Slice" "zones" "[I", Cond.fieldLink RX6 116 "EarthBanks$Slice" "heads" "[I", Cond.fieldLink RX6 123 "EarthBanks$Slice" "gone" "[I", Cond.methodLink RX6 101 yX6_isCell, Cond.static yX6_isCell, Cond.code yX6_isCell cX6_isCell 2 (some .boolean), Cond.methodLink RX6 105 yX6_placeOf, Cond.methodLink RX6 109 yX2_isAir, Cond.methodLink RX6 119 yX2_pushAt, Cond.instanceMethod yX2_pushAt, Cond.selects RX2 yX2_pushAt yX2_pushAt, Cond.code yX2_pushAt cX2_pushAt 2 (some .int), Cond.methodLink RX2 59 Lib.Math.max.name, Cond.static Lib.Math.max.name, Cond.code Lib.Math.max.name Lib.Math.max.code 2 (some .int)]
def wsL_law_r17 : List Cond := [Cond.methodLink RL 33 yX7_cell, Cond.instanceMethod yX7_cell, Cond.selects RX7 yX7_cell yX7_cell, Cond.code yX7_cell cX7_cell 5 (some .int), Cond.methodLink RX7 144 yX7_isCell, Cond.static yX7_isCell, Cond.code yX7_isCell cX7_isCell 2 (some .boolean), Cond.methodLink RX7 86 yX7_pushOf, Cond.instanceMethod yX7_pushOf, Cond.selects RX7 yX7_pushOf yX7_pushOf, Cond.code yX7_pushOf cX7_pushOf 3 (some .int), Cond.methodLink RL 34 yX6_zone, Cond.instanceMethod yX6_zone, Cond.selects RX6 yX6_zone yX6_zone, Cond.code yX6_zone cX6_zone 6 (some .int), Cond.fieldLink RX6 132 "EarthBanks$Slice" "leads" "[I", Cond.fieldLink RX6 135 "EarthBanks$Slice" "holds" "[I", Cond.fieldLink RX6 138 "EarthBanks$Slice" "grains" "[I", Cond.methodLink RX6 126 yX6_isZone, Cond.methodLink RX6 129 yX6_isTrait, Cond.static yX6_isTrait, Cond.code yX6_isTrait cX6_isTrait 1 (some .boolean), Cond.methodLink RL 37 yX7_zone, Cond.instanceMethod yX7_zone]
def wsL_law_r18 : List Cond := [Cond.selects RX7 yX7_zone yX7_zone, Cond.code yX7_zone cX7_zone 6 (some .int), Cond.methodLink RL 38 yX6_load, Cond.instanceMethod yX6_load, Cond.selects RX6 yX6_load yX6_load, Cond.code yX6_load cX6_load 5 (some .int), Cond.methodLink RX6 141 yX6_loadOfPart, Cond.instanceMethod yX6_loadOfPart, Cond.selects RX6 yX6_loadOfPart yX6_loadOfPart, Cond.code yX6_loadOfPart cX6_loadOfPart 2 (some .int), Cond.methodLink RX6 144 yX6_loadOfCell, Cond.instanceMethod yX6_loadOfCell, Cond.selects RX6 yX6_loadOfCell yX6_loadOfCell, Cond.code yX6_loadOfCell cX6_loadOfCell 2 (some .int), Cond.constantLong RX6 156 (10), Cond.methodLink RX6 147 yX6_loadOfDrained, Cond.instanceMethod yX6_loadOfDrained, Cond.selects RX6 yX6_loadOfDrained yX6_loadOfDrained, Cond.code yX6_loadOfDrained cX6_loadOfDrained 3 (some .int), Cond.constantLong RX6 158 (100), Cond.methodLink RX6 150 yX6_loadOfCarried, Cond.instanceMethod yX6_loadOfCarried, Cond.selects RX6 yX6_loadOfCarried yX6_loadOfCarried, Cond.code yX6_loadOfCarried cX6_loadOfCarried 2 (some .int)]
def wsL_law_r19 : List Cond := [Cond.constantLong RX6 160 (1000), Cond.methodLink RX6 153 yX6_loadOfCrack, Cond.instanceMethod yX6_loadOfCrack, Cond.selects RX6 yX6_loadOfCrack yX6_loadOfCrack, Cond.code yX6_loadOfCrack cX6_loadOfCrack 2 (some .int), Cond.constantLong RX6 162 (10000), Cond.methodLink RX6 164 yX2_holdAt, Cond.instanceMethod yX2_holdAt, Cond.selects RX2 yX2_holdAt yX2_holdAt, Cond.code yX2_holdAt cX2_holdAt 2 (some .int), Cond.methodLink RL 41 yX7_load, Cond.instanceMethod yX7_load, Cond.selects RX7 yX7_load yX7_load, Cond.code yX7_load cX7_load 7 (some .int), Cond.fieldLink RX7 148 "EarthBanksModel" "trace" "J", Cond.constantLong RX7 152 (11), Cond.constantLong RX7 154 (111), Cond.constantLong RX7 156 (1011), Cond.constantLong RX7 158 (10001), Cond.methodLink RX7 160 yX7_holdOf, Cond.instanceMethod yX7_holdOf, Cond.selects RX7 yX7_holdOf yX7_holdOf, Cond.code yX7_holdOf cX7_holdOf 2 (some .int), Cond.methodLink RL 42 yX6_lake]
def wsL_law_r20 : List Cond := [Cond.instanceMethod yX6_lake, Cond.selects RX6 yX6_lake yX6_lake, Cond.code yX6_lake cX6_lake 3 (some .int), Cond.methodLink RL 46 yX7_lake, Cond.instanceMethod yX7_lake, Cond.selects RX7 yX7_lake yX7_lake, Cond.code yX7_lake cX7_lake 3 (some .int), Cond.methodLink RL 47 yX6_sweep, Cond.instanceMethod yX6_sweep, Cond.selects RX6 yX6_sweep yX6_sweep, Cond.code yX6_sweep cX6_sweep 2 (some .int), Cond.methodLink RX6 167 yX2_runSweeps, Cond.instanceMethod yX2_runSweeps, Cond.selects RX2 yX2_runSweeps yX2_runSweeps, Cond.code yX2_runSweeps cX2_runSweeps 3 none, Cond.methodLink RX2 83 yX2_notePassing, Cond.instanceMethod yX2_notePassing, Cond.selects RX2 yX2_notePassing yX2_notePassing, Cond.code yX2_notePassing cX2_notePassing 2 none, Cond.methodLink RX2 86 yX2_fixEnds, Cond.instanceMethod yX2_fixEnds, Cond.selects RX2 yX2_fixEnds yX2_fixEnds, Cond.code yX2_fixEnds cX2_fixEnds 2 none, Cond.methodLink RX2 92 yX2_isAtLake]
def wsL_law_r21 : List Cond := [Cond.instanceMethod yX2_isAtLake, Cond.selects RX2 yX2_isAtLake yX2_isAtLake, Cond.code yX2_isAtLake cX2_isAtLake 2 (some .boolean), Cond.methodLink RX2 95 yX2_isAtFoot, Cond.instanceMethod yX2_isAtFoot, Cond.selects RX2 yX2_isAtFoot yX2_isAtFoot, Cond.code yX2_isAtFoot cX2_isAtFoot 2 (some .boolean), Cond.methodLink RX2 89 yX2_levelOthers, Cond.instanceMethod yX2_levelOthers, Cond.selects RX2 yX2_levelOthers yX2_levelOthers, Cond.code yX2_levelOthers cX2_levelOthers 3 none, Cond.methodLink RX2 98 yX2_leadsAround, Cond.instanceMethod yX2_leadsAround, Cond.selects RX2 yX2_leadsAround yX2_leadsAround, Cond.code yX2_leadsAround cX2_leadsAround 5 (some .int), Cond.methodLink RX2 110 Lib.Math.min.name, Cond.methodLink RX2 107 yX2_neighbour, Cond.static yX2_neighbour, Cond.code yX2_neighbour cX2_neighbour 4 (some .int), Cond.methodLink RX2 101 yX2_flowInto, Cond.instanceMethod yX2_flowInto, Cond.selects RX2 yX2_flowInto yX2_flowInto, Cond.code yX2_flowInto cX2_flowInto 5 (some .int), Cond.methodLink RX6 171 yX2_wetCells]
def wsL_law_r22 : List Cond := [Cond.instanceMethod yX2_wetCells, Cond.selects RX2 yX2_wetCells yX2_wetCells, Cond.code yX2_wetCells cX2_wetCells 3 (some .int), Cond.methodLink RX2 72 yX2_isWet, Cond.instanceMethod yX2_isWet, Cond.selects RX2 yX2_isWet yX2_isWet, Cond.code yX2_isWet cX2_isWet 2 (some .boolean), Cond.methodLink RX2 68 yX2_pushAt, Cond.methodLink RL 50 yX7_sweep, Cond.instanceMethod yX7_sweep, Cond.selects RX7 yX7_sweep yX7_sweep, Cond.code yX7_sweep cX7_sweep 3 (some .int), Cond.methodLink RX7 176 yX7_sweeps, Cond.instanceMethod yX7_sweeps, Cond.selects RX7 yX7_sweeps yX7_sweeps, Cond.code yX7_sweeps cX7_sweeps 4 none, Cond.methodLink RX7 169 yX7_flowing, Cond.instanceMethod yX7_flowing, Cond.selects RX7 yX7_flowing yX7_flowing, Cond.code yX7_flowing cX7_flowing 6 (some .int), Cond.methodLink RX7 163 yX7_beside, Cond.static yX7_beside, Cond.code yX7_beside cX7_beside 4 (some .int), Cond.methodLink RX7 166 yX7_lesser]
def wsL_law_r23 : List Cond := [Cond.instanceMethod yX7_lesser, Cond.selects RX7 yX7_lesser yX7_lesser, Cond.code yX7_lesser cX7_lesser 5 (some .int), Cond.methodLink RX7 179 yX7_wet, Cond.instanceMethod yX7_wet, Cond.selects RX7 yX7_wet yX7_wet, Cond.code yX7_wet cX7_wet 3 (some .int), Cond.methodLink RX7 173 yX7_isWet, Cond.instanceMethod yX7_isWet, Cond.selects RX7 yX7_isWet yX7_isWet, Cond.code yX7_isWet cX7_isWet 2 (some .boolean), Cond.methodLink RL 51 yX6_seep, Cond.instanceMethod yX6_seep, Cond.selects RX6 yX6_seep yX6_seep, Cond.code yX6_seep cX6_seep 1 (some .int), Cond.methodLink RX6 174 yX2_seepage, Cond.instanceMethod yX2_seepage, Cond.selects RX2 yX2_seepage yX2_seepage, Cond.code yX2_seepage cX2_seepage 1 (some .int), Cond.methodLink RL 54 yX7_seep, Cond.instanceMethod yX7_seep, Cond.selects RX7 yX7_seep yX7_seep, Cond.code yX7_seep cX7_seep 1 (some .int), Cond.methodLink RL 55 yX6_dry]
def wsL_law_r24 : List Cond := [Cond.instanceMethod yX6_dry, Cond.selects RX6 yX6_dry yX6_dry, Cond.code yX6_dry cX6_dry 1 (some .int), Cond.methodLink RX6 177 yX2_dropHeads, Cond.instanceMethod yX2_dropHeads, Cond.selects RX2 yX2_dropHeads yX2_dropHeads, Cond.code yX2_dropHeads cX2_dropHeads 3 (some .int), Cond.methodLink RL 58 yX7_dry, Cond.instanceMethod yX7_dry, Cond.selects RX7 yX7_dry yX7_dry, Cond.code yX7_dry cX7_dry 1 (some .int), Cond.methodLink RX7 182 yX7_dries, Cond.instanceMethod yX7_dries, Cond.selects RX7 yX7_dries yX7_dries, Cond.code yX7_dries cX7_dries 3 (some .int), Cond.methodLink RL 59 yX6_least, Cond.instanceMethod yX6_least, Cond.selects RX6 yX6_least yX6_least, Cond.code yX6_least cX6_least 2 (some .int), Cond.fieldLink RX6 187 "EarthBanks$Slides" "found" "Z", Cond.fieldLink RX6 191 "EarthBanks$Slides" "leastMargin" "I", Cond.fieldLink RX6 194 "EarthBanks$Slides" "leastStart" "I", Cond.fieldLink RX6 197 "EarthBanks$Slides" "leastHeights" "[I", Cond.methodLink RX6 180 yX3_survey]
def wsL_law_r25 : List Cond := [Cond.instanceMethod yX3_survey, Cond.selects RX3 yX3_survey yX3_survey, Cond.code yX3_survey cX3_survey 12 none, Cond.methodLink RX3 47 yX5_moreHold, Cond.instanceMethod yX5_moreHold, Cond.selects RX5 yX5_moreHold yX5_moreHold, Cond.code yX5_moreHold cX5_moreHold 5 (some .int), Cond.methodLink RX5 28 yX5_has, Cond.static yX5_has, Cond.code yX5_has cX5_has 2 (some .boolean), Cond.methodLink RX3 56 yX2_isWet, Cond.methodLink RX3 62 yX5_isDrained, Cond.instanceMethod yX5_isDrained, Cond.selects RX5 yX5_isDrained yX5_isDrained, Cond.code yX5_isDrained cX5_isDrained 4 (some .boolean), Cond.methodLink RX3 66 yX2_holdAt, Cond.methodLink RX3 70 yX2_isEarth, Cond.methodLink RX6 184 yX3_walkAll, Cond.instanceMethod yX3_walkAll, Cond.selects RX3 yX3_walkAll yX3_walkAll, Cond.code yX3_walkAll cX3_walkAll 3 none, Cond.methodLink RX3 73 yX3_walkFrom, Cond.instanceMethod yX3_walkFrom, Cond.selects RX3 yX3_walkFrom yX3_walkFrom]
def wsL_law_r26 : List Cond := [Cond.code yX3_walkFrom cX3_walkFrom 9 none, Cond.methodLink RX3 77 yX3_driveOf, Cond.instanceMethod yX3_driveOf, Cond.selects RX3 yX3_driveOf yX3_driveOf, Cond.code yX3_driveOf cX3_driveOf 4 (some .int), Cond.methodLink RX3 81 yX3_meetWay, Cond.instanceMethod yX3_meetWay, Cond.selects RX3 yX3_meetWay yX3_meetWay, Cond.code yX3_meetWay cX3_meetWay 4 none, Cond.methodLink RX3 85 Lib.Math.min.name, Cond.methodLink RX3 90 arraycopyName, Cond.methodLink RL 62 yX7_least, Cond.instanceMethod yX7_least, Cond.selects RX7 yX7_least yX7_least, Cond.code yX7_least cX7_least 2 (some .int), Cond.fieldLink RX7 188 "EarthBanksModel" "bestMargin" "I", Cond.fieldLink RX7 197 "EarthBanksModel" "bestFrom" "I", Cond.methodLink RX7 200 yX7_nothing, Cond.instanceMethod yX7_nothing, Cond.selects RX7 yX7_nothing yX7_nothing, Cond.code yX7_nothing cX7_nothing 2 none, Cond.methodLink RX7 203 yX7_goes, Cond.instanceMethod yX7_goes, Cond.selects RX7 yX7_goes yX7_goes]
def wsL_law_r27 : List Cond := [Cond.code yX7_goes cX7_goes 7 none, Cond.fieldLink RX7 191 "EarthBanksModel" "below" "I", Cond.methodLink RX7 194 yX7_marginOf, Cond.instanceMethod yX7_marginOf, Cond.selects RX7 yX7_marginOf yX7_marginOf, Cond.code yX7_marginOf cX7_marginOf 9 (some .int), Cond.methodLink RX7 185 yX7_counts, Cond.instanceMethod yX7_counts, Cond.selects RX7 yX7_counts yX7_counts, Cond.code yX7_counts cX7_counts 2 (some .boolean), Cond.methodLink RL 63 yX6_ways, Cond.instanceMethod yX6_ways, Cond.selects RX6 yX6_ways yX6_ways, Cond.code yX6_ways cX6_ways 2 (some .int), Cond.fieldLink RX6 200 "EarthBanks$Slides" "belowAim" "I", Cond.methodLink RL 66 yX7_ways, Cond.instanceMethod yX7_ways, Cond.selects RX7 yX7_ways yX7_ways, Cond.code yX7_ways cX7_ways 2 (some .int), Cond.methodLink RL 67 yX6_filter, Cond.instanceMethod yX6_filter, Cond.selects RX6 yX6_filter yX6_filter, Cond.code yX6_filter cX6_filter 3 (some .int), Cond.methodLink RL 70 yX7_filter]
def wsL_law_r28 : List Cond := [Cond.instanceMethod yX7_filter, Cond.selects RX7 yX7_filter yX7_filter, Cond.code yX7_filter cX7_filter 3 (some .int), Cond.methodLink RL 71 yX6_day, Cond.instanceMethod yX6_day, Cond.selects RX6 yX6_day yX6_day, Cond.code yX6_day cX6_day 1 (some .int), Cond.methodLink RX6 203 yX2_passDay, Cond.instanceMethod yX2_passDay, Cond.selects RX2 yX2_passDay yX2_passDay, Cond.code yX2_passDay cX2_passDay 4 (some .int), Cond.methodLink RX2 116 yX2_isLoose, Cond.instanceMethod yX2_isLoose, Cond.selects RX2 yX2_isLoose yX2_isLoose, Cond.code yX2_isLoose cX2_isLoose 3 (some .boolean), Cond.methodLink RX2 120 yX2_holdAt, Cond.methodLink RX2 123 yX2_isOpen, Cond.instanceMethod yX2_isOpen, Cond.selects RX2 yX2_isOpen yX2_isOpen, Cond.code yX2_isOpen cX2_isOpen 6 (some .boolean), Cond.methodLink RX2 126 yX2_grainAt, Cond.instanceMethod yX2_grainAt, Cond.selects RX2 yX2_grainAt yX2_grainAt, Cond.code yX2_grainAt cX2_grainAt 2 (some .int)]
def wsL_law_r29 : List Cond := [Cond.methodLink RL 74 yX7_day, Cond.instanceMethod yX7_day, Cond.selects RX7 yX7_day yX7_day, Cond.code yX7_day cX7_day 1 (some .int), Cond.methodLink RX7 210 yX7_days, Cond.instanceMethod yX7_days, Cond.selects RX7 yX7_days yX7_days, Cond.code yX7_days cX7_days 3 (some .int), Cond.methodLink RX7 207 yX7_isLoose, Cond.instanceMethod yX7_isLoose, Cond.selects RX7 yX7_isLoose yX7_isLoose, Cond.code yX7_isLoose cX7_isLoose 5 (some .boolean), Cond.methodLink RL 75 yX6_breach, Cond.instanceMethod yX6_breach, Cond.selects RX6 yX6_breach yX6_breach, Cond.code yX6_breach cX6_breach 1 (some .int), Cond.methodLink RX6 206 yX2_daysToBreach, Cond.instanceMethod yX2_daysToBreach, Cond.selects RX2 yX2_daysToBreach yX2_daysToBreach, Cond.code yX2_daysToBreach cX2_daysToBreach 4 (some .int), Cond.methodLink RX2 129 yX2_earthAtFront, Cond.instanceMethod yX2_earthAtFront, Cond.selects RX2 yX2_earthAtFront yX2_earthAtFront, Cond.code yX2_earthAtFront cX2_earthAtFront 3 (some .int)]
def wsL_law_r30 : List Cond := [Cond.methodLink RX2 132 yX2_passDay, Cond.methodLink RL 78 yX7_breach, Cond.instanceMethod yX7_breach, Cond.selects RX7 yX7_breach yX7_breach, Cond.code yX7_breach cX7_breach 2 (some .int), Cond.methodLink RX7 213 yX7_saves, Cond.instanceMethod yX7_saves, Cond.selects RX7 yX7_saves yX7_saves, Cond.code yX7_saves cX7_saves 3 none, Cond.methodLink RX7 217 yX7_breaks, Cond.instanceMethod yX7_breaks, Cond.selects RX7 yX7_breaks yX7_breaks, Cond.code yX7_breaks cX7_breaks 3 (some .int), Cond.methodLink RL 79 yX6_highest, Cond.instanceMethod yX6_highest, Cond.selects RX6 yX6_highest yX6_highest, Cond.code yX6_highest cX6_highest 2 (some .int), Cond.methodLink RX6 209 yX2_soakAnew, Cond.instanceMethod yX2_soakAnew, Cond.selects RX2 yX2_soakAnew yX2_soakAnew, Cond.code yX2_soakAnew cX2_soakAnew 1 none, Cond.methodLink RX2 75 yX2_dropHeads, Cond.methodLink RX2 79 yX2_runSweeps, Cond.methodLink RL 82 yX7_highest]
def wsL_law_r31 : List Cond := [Cond.instanceMethod yX7_highest, Cond.selects RX7 yX7_highest yX7_highest, Cond.code yX7_highest cX7_highest 3 (some .int), Cond.methodLink RX7 220 yX7_fills, Cond.instanceMethod yX7_fills, Cond.selects RX7 yX7_fills yX7_fills, Cond.code yX7_fills cX7_fills 3 none, Cond.methodLink RL 83 yX6_pool, Cond.instanceMethod yX6_pool, Cond.selects RX6 yX6_pool yX6_pool, Cond.code yX6_pool cX6_pool 3 (some .int), Cond.methodLink RX6 212 yX6_isPoolWater, Cond.static yX6_isPoolWater, Cond.code yX6_isPoolWater cX6_isPoolWater 1 (some .boolean), Cond.methodLink RX6 215 yX1_change, Cond.instanceMethod yX1_change, Cond.selects RX1 yX1_change yX1_change, Cond.code yX1_change cX1_change 4 (some .int), Cond.methodLink RL 87 yX7_pool, Cond.instanceMethod yX7_pool, Cond.selects RX7 yX7_pool yX7_pool, Cond.code yX7_pool cX7_pool 4 (some .int), Cond.methodLink RL 88 yX6_flood, Cond.instanceMethod yX6_flood]
def wsL_law_r32 : List Cond := [Cond.selects RX6 yX6_flood yX6_flood, Cond.code yX6_flood cX6_flood 3 (some .int), Cond.fieldLink RX6 224 "EarthBanks$Reservoir" "hours" "[I", Cond.methodLink RX6 218 yX6_isFlood, Cond.static yX6_isFlood, Cond.code yX6_isFlood cX6_isFlood 1 (some .boolean), Cond.methodLink RX6 221 yX1_addHour, Cond.instanceMethod yX1_addHour, Cond.selects RX1 yX1_addHour yX1_addHour, Cond.code yX1_addHour cX1_addHour 3 (some .boolean), Cond.methodLink RL 91 yX7_flood, Cond.instanceMethod yX7_flood, Cond.selects RX7 yX7_flood yX7_flood, Cond.code yX7_flood cX7_flood 3 (some .int), Cond.methodLink RL 92 yX6_ebb, Cond.instanceMethod yX6_ebb, Cond.selects RX6 yX6_ebb yX6_ebb, Cond.code yX6_ebb cX6_ebb 2 (some .int), Cond.methodLink RX6 227 yX1_emptyFlood, Cond.instanceMethod yX1_emptyFlood, Cond.selects RX1 yX1_emptyFlood yX1_emptyFlood, Cond.code yX1_emptyFlood cX1_emptyFlood 3 (some .int), Cond.methodLink RL 95 yX7_ebb, Cond.instanceMethod yX7_ebb]
def wsL_law_r33 : List Cond := [Cond.selects RX7 yX7_ebb yX7_ebb, Cond.code yX7_ebb cX7_ebb 3 (some .int), Cond.methodLink RL 96 yX6_route, Cond.instanceMethod yX6_route, Cond.selects RX6 yX6_route yX6_route, Cond.code yX6_route cX6_route 4 (some .int), Cond.fieldLink RX6 234 "EarthBanks$Reservoir" "water" "I", Cond.fieldLink RX6 237 "EarthBanks$Reservoir" "hoursOver" "I", Cond.fieldLink RX6 240 "EarthBanks$Reservoir" "town" "I", Cond.fieldLink RX6 247 "EarthBanks$Reservoir" "letOut" "I", Cond.methodLink RX6 230 yX1_run, Cond.instanceMethod yX1_run, Cond.selects RX1 yX1_run yX1_run, Cond.code yX1_run cX1_run 4 none, Cond.methodLink RX1 34 yX1_passHour, Cond.instanceMethod yX1_passHour, Cond.selects RX1 yX1_passHour yX1_passHour, Cond.code yX1_passHour cX1_passHour 6 none, Cond.methodLink RX1 38 Lib.Math.min.name, Cond.methodLink RX1 44 Lib.Math.max.name, Cond.methodLink RX6 243 yX1_wasSafe, Cond.instanceMethod yX1_wasSafe, Cond.selects RX1 yX1_wasSafe yX1_wasSafe, Cond.code yX1_wasSafe cX1_wasSafe 1 (some .boolean)]
def wsL_law_r34 : List Cond := [Cond.methodLink RL 99 yX7_route, Cond.instanceMethod yX7_route, Cond.selects RX7 yX7_route yX7_route, Cond.code yX7_route cX7_route 5 (some .int), Cond.fieldLink RX7 232 "EarthBanksModel" "poolEnd" "I", Cond.fieldLink RX7 223 "EarthBanksModel" "poolOver" "I", Cond.fieldLink RX7 226 "EarthBanksModel" "poolTown" "I", Cond.fieldLink RX7 229 "EarthBanksModel" "poolOut" "I", Cond.methodLink RX7 239 yX7_isSafe, Cond.instanceMethod yX7_isSafe, Cond.selects RX7 yX7_isSafe yX7_isSafe, Cond.code yX7_isSafe cX7_isSafe 3 (some .boolean), Cond.methodLink RX7 235 yX7_routes, Cond.instanceMethod yX7_routes, Cond.selects RX7 yX7_routes yX7_routes, Cond.code yX7_routes cX7_routes 8 none, Cond.methodLink RL 100 yX6_best, Cond.instanceMethod yX6_best, Cond.selects RX6 yX6_best yX6_best, Cond.code yX6_best cX6_best 6 (some .int), Cond.methodLink RX6 250 yX1_safeFloods, Cond.instanceMethod yX1_safeFloods, Cond.selects RX1 yX1_safeFloods yX1_safeFloods, Cond.code yX1_safeFloods cX1_safeFloods 4 (some .int)]
def wsL_law_r35 : List Cond := [Cond.methodLink RX1 47 yX1_run, Cond.methodLink RX1 50 yX1_wasSafe, Cond.methodLink RL 103 yX7_best, Cond.instanceMethod yX7_best, Cond.selects RX7 yX7_best yX7_best, Cond.code yX7_best cX7_best 7 (some .int), Cond.methodLink RL 104 yX6_gauge, Cond.instanceMethod yX6_gauge, Cond.selects RX6 yX6_gauge yX6_gauge, Cond.code yX6_gauge cX6_gauge 4 (some .int), Cond.methodLink RX6 253 yX4_addGauge, Cond.instanceMethod yX4_addGauge, Cond.selects RX4 yX4_addGauge yX4_addGauge, Cond.code yX4_addGauge cX4_addGauge 3 (some .int), Cond.methodLink RL 107 yX7_gauge, Cond.instanceMethod yX7_gauge, Cond.selects RX7 yX7_gauge yX7_gauge, Cond.code yX7_gauge cX7_gauge 4 (some .int), Cond.fieldLink RX7 242 "EarthBanksModel" "gauges" "I", Cond.methodLink RL 108 yX6_cause, Cond.instanceMethod yX6_cause, Cond.selects RX6 yX6_cause yX6_cause, Cond.code yX6_cause cX6_cause 3 (some .int), Cond.methodLink RX6 256 yX4_addCause]
def wsL_law_r36 : List Cond := [Cond.instanceMethod yX4_addCause, Cond.selects RX4 yX4_addCause yX4_addCause, Cond.code yX4_addCause cX4_addCause 3 (some .int), Cond.methodLink RL 111 yX7_cause, Cond.instanceMethod yX7_cause, Cond.selects RX7 yX7_cause yX7_cause, Cond.code yX7_cause cX7_cause 3 (some .int), Cond.fieldLink RX7 245 "EarthBanksModel" "causes" "I", Cond.methodLink RL 112 yX6_slack, Cond.instanceMethod yX6_slack, Cond.selects RX6 yX6_slack yX6_slack, Cond.code yX6_slack cX6_slack 3 (some .int), Cond.fieldLink RX6 259 "EarthBanks$Watch" "slackAllowed" "I", Cond.methodLink RL 115 yX7_slack, Cond.instanceMethod yX7_slack, Cond.selects RX7 yX7_slack yX7_slack, Cond.code yX7_slack cX7_slack 3 (some .int), Cond.methodLink RL 116 yX6_fits, Cond.instanceMethod yX6_fits, Cond.selects RX6 yX6_fits yX6_fits, Cond.code yX6_fits cX6_fits 1 (some .int), Cond.methodLink RX6 262 yX4_tryCauses, Cond.instanceMethod yX4_tryCauses, Cond.selects RX4 yX4_tryCauses yX4_tryCauses]
def wsL_law_r37 : List Cond := [Cond.code yX4_tryCauses cX4_tryCauses 5 (some .int), Cond.fieldLink RX4 52 "EarthBanks$Slice" "leads" "[I", Cond.methodLink RX4 40 yJ7_fill_53178, Cond.methodLink RX4 46 yX2_copy, Cond.methodLink RX4 55 yX2_soakAnew, Cond.methodLink RX4 58 yX4_allGaugesAgree, Cond.instanceMethod yX4_allGaugesAgree, Cond.selects RX4 yX4_allGaugesAgree yX4_allGaugesAgree, Cond.code yX4_allGaugesAgree cX4_allGaugesAgree 4 (some .boolean), Cond.fieldLink RX4 69 "EarthBanks$Slice" "heads" "[I", Cond.methodLink RX4 72 Lib.Math.abs.name, Cond.static Lib.Math.abs.name, Cond.code Lib.Math.abs.name Lib.Math.abs.code 1 (some .int), Cond.methodLink RX4 65 yX2_isEarth, Cond.methodLink RX4 62 yX4_noteHeads, Cond.instanceMethod yX4_noteHeads, Cond.selects RX4 yX4_noteHeads yX4_noteHeads, Cond.code yX4_noteHeads cX4_noteHeads 3 none, Cond.methodLink RX4 78 Lib.Math.min.name, Cond.methodLink RX4 82 Lib.Math.max.name, Cond.methodLink RL 119 yX7_fits, Cond.instanceMethod yX7_fits, Cond.selects RX7 yX7_fits yX7_fits, Cond.code yX7_fits cX7_fits 1 (some .int)]
def wsL_law_r38 : List Cond := [Cond.methodLink RX7 248 yX7_fitting, Cond.instanceMethod yX7_fitting, Cond.selects RX7 yX7_fitting yX7_fitting, Cond.code yX7_fitting cX7_fitting 7 (some .int), Cond.methodLink RL 120 yX6_next, Cond.instanceMethod yX6_next, Cond.selects RX6 yX6_next yX6_next, Cond.code yX6_next cX6_next 3 (some .int), Cond.methodLink RX6 266 yJ6_bitCount_0f7a4, Cond.static yJ6_bitCount_0f7a4, Cond.initialized RJ6, Cond.code yJ6_bitCount_0f7a4 cJ6_bitCount_0f7a4 1 (some .int), Cond.constant RJ6 265 (1431655765), Cond.constant RJ6 266 (858993459), Cond.constant RJ6 267 (252645135), Cond.methodLink RX6 271 yX4_placeMostApart, Cond.instanceMethod yX4_placeMostApart, Cond.selects RX4 yX4_placeMostApart yX4_placeMostApart, Cond.code yX4_placeMostApart cX4_placeMostApart 4 (some .int), Cond.methodLink RX4 85 yX4_apartAt, Cond.instanceMethod yX4_apartAt, Cond.selects RX4 yX4_apartAt yX4_apartAt, Cond.code yX4_apartAt cX4_apartAt 2 (some .int), Cond.methodLink RX6 274 yX4_apartAt]
def wsL_law_r39 : List Cond := [Cond.methodLink RL 123 yX7_next, Cond.instanceMethod yX7_next, Cond.selects RX7 yX7_next yX7_next, Cond.code yX7_next cX7_next 6 (some .int), Cond.methodLink RL 124 yX6_work, Cond.instanceMethod yX6_work, Cond.selects RX6 yX6_work yX6_work, Cond.code yX6_work cX6_work 7 (some .int), Cond.methodLink RX6 277 yX5_add, Cond.instanceMethod yX5_add, Cond.selects RX5 yX5_add yX5_add, Cond.code yX5_add cX5_add 5 (some .int), Cond.methodLink RL 128 yX7_work, Cond.instanceMethod yX7_work, Cond.selects RX7 yX7_work yX7_work, Cond.code yX7_work cX7_work 7 (some .int), Cond.fieldLink RX7 251 "EarthBanksModel" "works" "I", Cond.methodLink RL 129 yX6_cheapest, Cond.instanceMethod yX6_cheapest, Cond.selects RX6 yX6_cheapest yX6_cheapest, Cond.code yX6_cheapest cX6_cheapest 8 (some .int), Cond.fieldLink RX6 281 "EarthBanks$Works" "size" "I", Cond.methodLink RX6 284 yX5_priceOf, Cond.instanceMethod yX5_priceOf]
def wsL_law_r40 : List Cond := [Cond.selects RX5 yX5_priceOf yX5_priceOf, Cond.code yX5_priceOf cX5_priceOf 4 (some .int), Cond.methodLink RX6 287 yX3_allReach, Cond.instanceMethod yX3_allReach, Cond.selects RX3 yX3_allReach yX3_allReach, Cond.code yX3_allReach cX3_allReach 7 (some .boolean), Cond.constant RX3 99 (1000000000), Cond.methodLink RX3 96 yX3_leastBehind, Cond.instanceMethod yX3_leastBehind, Cond.selects RX3 yX3_leastBehind yX3_leastBehind, Cond.code yX3_leastBehind cX3_leastBehind 6 (some .int), Cond.methodLink RL 132 yX7_cheapest, Cond.instanceMethod yX7_cheapest, Cond.selects RX7 yX7_cheapest yX7_cheapest, Cond.code yX7_cheapest cX7_cheapest 9 (some .int), Cond.methodLink RL 133 yX6_keep, Cond.instanceMethod yX6_keep, Cond.selects RX6 yX6_keep yX6_keep, Cond.code yX6_keep cX6_keep 2 (some .int), Cond.methodLink RX6 290 yX6_imageOf, Cond.instanceMethod yX6_imageOf, Cond.selects RX6 yX6_imageOf yX6_imageOf, Cond.code yX6_imageOf cX6_imageOf 2 (some (.object "EarthBanks$Slice")), Cond.methodLink RL 136 yX7_keep]
def wsL_law_r41 : List Cond := [Cond.instanceMethod yX7_keep, Cond.selects RX7 yX7_keep yX7_keep, Cond.code yX7_keep cX7_keep 3 (some .int), Cond.methodLink RL 137 yX6_back, Cond.instanceMethod yX6_back, Cond.selects RX6 yX6_back yX6_back, Cond.code yX6_back cX6_back 2 (some .int), Cond.methodLink RL 140 yX7_back, Cond.instanceMethod yX7_back, Cond.selects RX7 yX7_back yX7_back, Cond.code yX7_back cX7_back 3 (some .int), Cond.methodLink RL 141 yX6_count, Cond.instanceMethod yX6_count, Cond.selects RX6 yX6_count yX6_count, Cond.code yX6_count cX6_count 2 (some .int), Cond.fieldLink RX6 297 "EarthBanks$Watch" "gauges" "I", Cond.fieldLink RX6 300 "EarthBanks$Watch" "causes" "I", Cond.methodLink RX6 294 yX2_goneCells, Cond.instanceMethod yX2_goneCells, Cond.selects RX2 yX2_goneCells yX2_goneCells, Cond.code yX2_goneCells cX2_goneCells 3 (some .int), Cond.methodLink RL 144 yX7_count, Cond.instanceMethod yX7_count, Cond.selects RX7 yX7_count yX7_count]
def wsL_law_r42 : List Cond := [Cond.code yX7_count cX7_count 4 (some .int), Cond.methodLink RL 145 yX6_trace, Cond.instanceMethod yX6_trace, Cond.selects RX6 yX6_trace yX6_trace, Cond.code yX6_trace cX6_trace 1 (some .long), Cond.methodLink RL 149 yX7_trace, Cond.instanceMethod yX7_trace, Cond.selects RX7 yX7_trace yX7_trace, Cond.code yX7_trace cX7_trace 1 (some .long)]
def wsL_law : List Cond := (wsL_law_r1 ++ (wsL_law_r2 ++ (wsL_law_r3 ++ (wsL_law_r4 ++ (wsL_law_r5 ++ (wsL_law_r6 ++ (wsL_law_r7 ++ (wsL_law_r8 ++ (wsL_law_r9 ++ (wsL_law_r10 ++ (wsL_law_r11 ++ (wsL_law_r12 ++ (wsL_law_r13 ++ (wsL_law_r14 ++ (wsL_law_r15 ++ (wsL_law_r16 ++ (wsL_law_r17 ++ (wsL_law_r18 ++ (wsL_law_r19 ++ (wsL_law_r20 ++ (wsL_law_r21 ++ (wsL_law_r22 ++ (wsL_law_r23 ++ (wsL_law_r24 ++ (wsL_law_r25 ++ (wsL_law_r26 ++ (wsL_law_r27 ++ (wsL_law_r28 ++ (wsL_law_r29 ++ (wsL_law_r30 ++ (wsL_law_r31 ++ (wsL_law_r32 ++ (wsL_law_r33 ++ (wsL_law_r34 ++ (wsL_law_r35 ++ (wsL_law_r36 ++ (wsL_law_r37 ++ (wsL_law_r38 ++ (wsL_law_r39 ++ (wsL_law_r40 ++ (wsL_law_r41 ++ wsL_law_r42))))))))))))))))))))))))))))))))))))))))) ++ wsX60 ++ wsX70 ++ wsX00 ++ wsX20 ++ wsX50 ++ wsX30 ++ wsX10 ++ wsX40 ++ ([] : List Cond)
theorem inlX0 : ∀ w ∈ wsX00, w ∈ wsL_law := fun _ h => List.mem_append_left _ (List.mem_append_left _ (List.mem_append_left _ (List.mem_append_left _ (List.mem_append_left _ (List.mem_append_left _ (List.mem_append_right _ h))))))
theorem inlX1 : ∀ w ∈ wsX10, w ∈ wsL_law := fun _ h => List.mem_append_left _ (List.mem_append_left _ (List.mem_append_right _ h))
theorem inlX2 : ∀ w ∈ wsX20, w ∈ wsL_law := fun _ h => List.mem_append_left _ (List.mem_append_left _ (List.mem_append_left _ (List.mem_append_left _ (List.mem_append_left _ (List.mem_append_right _ h)))))
theorem inlX3 : ∀ w ∈ wsX30, w ∈ wsL_law := fun _ h => List.mem_append_left _ (List.mem_append_left _ (List.mem_append_left _ (List.mem_append_right _ h)))
theorem inlX4 : ∀ w ∈ wsX40, w ∈ wsL_law := fun _ h => List.mem_append_left _ (List.mem_append_right _ h)
theorem inlX5 : ∀ w ∈ wsX50, w ∈ wsL_law := fun _ h => List.mem_append_left _ (List.mem_append_left _ (List.mem_append_left _ (List.mem_append_left _ (List.mem_append_right _ h))))
theorem inlX6 : ∀ w ∈ wsX60, w ∈ wsL_law := fun _ h => List.mem_append_left _ (List.mem_append_left _ (List.mem_append_left _ (List.mem_append_left _ (List.mem_append_left _ (List.mem_append_left _ (List.mem_append_left _ (List.mem_append_left _ (List.mem_append_right _ h))))))))
theorem inlX7 : ∀ w ∈ wsX70, w ∈ wsL_law := fun _ h => List.mem_append_left _ (List.mem_append_left _ (List.mem_append_left _ (List.mem_append_left _ (List.mem_append_left _ (List.mem_append_left _ (List.mem_append_left _ (List.mem_append_right _ h)))))))
abbrev vwCl : List vw_C := [(RX0, TX0, 6), (RX1, TX1, 7), (RX2, TX2, 9), (RX3, TX3, 11), (RX4, TX4, 9), (RX5, TX5, 5), (RX6, TX6, 12), (RX7, TX7, 38)]
abbrev wAll : List Cond := wsL_law
theorem r1_sub : ∀ w ∈ wsL_law_r1, w ∈ wAll := fun _ h => List.mem_append_left _ (List.mem_append_left _ (List.mem_append_left _ (List.mem_append_left _ (List.mem_append_left _ (List.mem_append_left _ (List.mem_append_left _ (List.mem_append_left _ (List.mem_append_left _ (List.mem_append_left _ h)))))))))
theorem k_1_0 : (Cond.classLink RL 7 RX6) ∈ wAll := r1_sub _ (List.mem_of_getElem? (i := 0) rfl)
theorem k_1_1 : (Cond.instantiable RX6 12) ∈ wAll := r1_sub _ (List.mem_of_getElem? (i := 1) rfl)
theorem k_1_2 : (Cond.initialized RX6) ∈ wAll := r1_sub _ (List.mem_of_getElem? (i := 2) rfl)
theorem k_1_3 : (Cond.classLink RL 10 RX7) ∈ wAll := r1_sub _ (List.mem_of_getElem? (i := 3) rfl)
theorem k_1_4 : (Cond.instantiable RX7 38) ∈ wAll := r1_sub _ (List.mem_of_getElem? (i := 4) rfl)
theorem k_1_5 : (Cond.initialized RX7) ∈ wAll := r1_sub _ (List.mem_of_getElem? (i := 5) rfl)
theorem k_1_6 : (Cond.constantLong RL 13 (4294967295)) ∈ wAll := r1_sub _ (List.mem_of_getElem? (i := 6) rfl)
theorem k_1_7 : (Cond.methodLink RL 9 yX6_init) ∈ wAll := r1_sub _ (List.mem_of_getElem? (i := 7) rfl)
theorem k_1_8 : (Cond.instanceMethod yX6_init) ∈ wAll := r1_sub _ (List.mem_of_getElem? (i := 8) rfl)
theorem k_1_9 : (Cond.code yX6_init cX6_init 1 none) ∈ wAll := r1_sub _ (List.mem_of_getElem? (i := 9) rfl)
theorem k_1_10 : (Cond.methodLink RX6 3 objectInit) ∈ wAll := r1_sub _ (List.mem_of_getElem? (i := 10) rfl)
theorem k_1_11 : (Cond.instanceMethod objectInit) ∈ wAll := r1_sub _ (List.mem_of_getElem? (i := 11) rfl)
theorem k_1_12 : (Cond.code objectInit ⟨#[0xb1]⟩ 1 none) ∈ wAll := r1_sub _ (List.mem_of_getElem? (i := 12) rfl)
theorem k_1_13 : (Cond.classLink RX6 9 RX0) ∈ wAll := r1_sub _ (List.mem_of_getElem? (i := 13) rfl)
theorem k_1_14 : (Cond.instantiable RX0 6) ∈ wAll := r1_sub _ (List.mem_of_getElem? (i := 14) rfl)
theorem k_1_15 : (Cond.initialized RX0) ∈ wAll := r1_sub _ (List.mem_of_getElem? (i := 15) rfl)
theorem k_1_16 : (Cond.fieldLink RX6 12 "EarthBanks" "text" "LEarthBanks$DamText;") ∈ wAll := r1_sub _ (List.mem_of_getElem? (i := 16) rfl)
theorem k_1_17 : (Cond.classLink RX6 16 RX2) ∈ wAll := r1_sub _ (List.mem_of_getElem? (i := 17) rfl)
theorem k_1_18 : (Cond.instantiable RX2 9) ∈ wAll := r1_sub _ (List.mem_of_getElem? (i := 18) rfl)
theorem k_1_19 : (Cond.initialized RX2) ∈ wAll := r1_sub _ (List.mem_of_getElem? (i := 19) rfl)
theorem k_1_20 : (Cond.fieldLink RX6 19 "EarthBanks" "slice" "LEarthBanks$Slice;") ∈ wAll := r1_sub _ (List.mem_of_getElem? (i := 20) rfl)
theorem k_1_21 : (Cond.fieldLink RX6 23 "EarthBanks" "trial" "LEarthBanks$Slice;") ∈ wAll := r1_sub _ (List.mem_of_getElem? (i := 21) rfl)
theorem k_1_22 : (Cond.fieldLink RX6 26 "EarthBanks" "firstImage" "LEarthBanks$Slice;") ∈ wAll := r1_sub _ (List.mem_of_getElem? (i := 22) rfl)
theorem k_1_23 : (Cond.fieldLink RX6 29 "EarthBanks" "secondImage" "LEarthBanks$Slice;") ∈ wAll := r1_sub _ (List.mem_of_getElem? (i := 23) rfl)
theorem r2_sub : ∀ w ∈ wsL_law_r2, w ∈ wAll := fun _ h => List.mem_append_left _ (List.mem_append_left _ (List.mem_append_left _ (List.mem_append_left _ (List.mem_append_left _ (List.mem_append_left _ (List.mem_append_left _ (List.mem_append_left _ (List.mem_append_left _ (List.mem_append_right _ (List.mem_append_left _ h))))))))))
theorem k_2_0 : (Cond.arrayClass .int) ∈ wAll := r2_sub _ (List.mem_of_getElem? (i := 0) rfl)
theorem k_2_1 : (Cond.fieldLink RX6 32 "EarthBanks" "kept" "[I") ∈ wAll := r2_sub _ (List.mem_of_getElem? (i := 1) rfl)
theorem k_2_2 : (Cond.classLink RX6 36 RX5) ∈ wAll := r2_sub _ (List.mem_of_getElem? (i := 2) rfl)
theorem k_2_3 : (Cond.instantiable RX5 5) ∈ wAll := r2_sub _ (List.mem_of_getElem? (i := 3) rfl)
theorem k_2_4 : (Cond.initialized RX5) ∈ wAll := r2_sub _ (List.mem_of_getElem? (i := 4) rfl)
theorem k_2_5 : (Cond.fieldLink RX6 39 "EarthBanks" "works" "LEarthBanks$Works;") ∈ wAll := r2_sub _ (List.mem_of_getElem? (i := 5) rfl)
theorem k_2_6 : (Cond.classLink RX6 43 RX3) ∈ wAll := r2_sub _ (List.mem_of_getElem? (i := 6) rfl)
theorem k_2_7 : (Cond.instantiable RX3 11) ∈ wAll := r2_sub _ (List.mem_of_getElem? (i := 7) rfl)
theorem k_2_8 : (Cond.initialized RX3) ∈ wAll := r2_sub _ (List.mem_of_getElem? (i := 8) rfl)
theorem k_2_9 : (Cond.fieldLink RX6 46 "EarthBanks" "slides" "LEarthBanks$Slides;") ∈ wAll := r2_sub _ (List.mem_of_getElem? (i := 9) rfl)
theorem k_2_10 : (Cond.classLink RX6 50 RX1) ∈ wAll := r2_sub _ (List.mem_of_getElem? (i := 10) rfl)
theorem k_2_11 : (Cond.instantiable RX1 7) ∈ wAll := r2_sub _ (List.mem_of_getElem? (i := 11) rfl)
theorem k_2_12 : (Cond.initialized RX1) ∈ wAll := r2_sub _ (List.mem_of_getElem? (i := 12) rfl)
theorem k_2_13 : (Cond.fieldLink RX6 53 "EarthBanks" "reservoir" "LEarthBanks$Reservoir;") ∈ wAll := r2_sub _ (List.mem_of_getElem? (i := 13) rfl)
theorem k_2_14 : (Cond.classLink RX6 57 RX4) ∈ wAll := r2_sub _ (List.mem_of_getElem? (i := 14) rfl)
theorem k_2_15 : (Cond.instantiable RX4 9) ∈ wAll := r2_sub _ (List.mem_of_getElem? (i := 15) rfl)
theorem k_2_16 : (Cond.initialized RX4) ∈ wAll := r2_sub _ (List.mem_of_getElem? (i := 16) rfl)
theorem k_2_17 : (Cond.fieldLink RX6 60 "EarthBanks" "watch" "LEarthBanks$Watch;") ∈ wAll := r2_sub _ (List.mem_of_getElem? (i := 17) rfl)
theorem k_2_18 : (Cond.fieldLink RX6 64 "EarthBanks" "filterFactor" "I") ∈ wAll := r2_sub _ (List.mem_of_getElem? (i := 18) rfl)
theorem k_2_19 : (Cond.fieldLink RX6 68 "EarthBanks" "traced" "J") ∈ wAll := r2_sub _ (List.mem_of_getElem? (i := 19) rfl)
theorem k_2_20 : (Cond.instanceMethod yX0_init) ∈ wAll := r2_sub _ (List.mem_of_getElem? (i := 20) rfl)
theorem k_2_21 : (Cond.code yX0_init cX0_init 1 none) ∈ wAll := r2_sub _ (List.mem_of_getElem? (i := 21) rfl)
theorem k_2_22 : (Cond.methodLink RX0 3 objectInit) ∈ wAll := r2_sub _ (List.mem_of_getElem? (i := 22) rfl)
theorem k_2_23 : (Cond.fieldLink RX0 11 "EarthBanks$DamText" "bytes" "[I") ∈ wAll := r2_sub _ (List.mem_of_getElem? (i := 23) rfl)
theorem r3_sub : ∀ w ∈ wsL_law_r3, w ∈ wAll := fun _ h => List.mem_append_left _ (List.mem_append_left _ (List.mem_append_left _ (List.mem_append_left _ (List.mem_append_left _ (List.mem_append_left _ (List.mem_append_left _ (List.mem_append_left _ (List.mem_append_left _ (List.mem_append_right _ (List.mem_append_right _ (List.mem_append_left _ h)))))))))))
theorem k_3_0 : (Cond.fieldLink RX0 15 "EarthBanks$DamText" "length" "I") ∈ wAll := r3_sub _ (List.mem_of_getElem? (i := 0) rfl)
theorem k_3_1 : (Cond.fieldLink RX0 19 "EarthBanks$DamText" "sort" "I") ∈ wAll := r3_sub _ (List.mem_of_getElem? (i := 1) rfl)
theorem k_3_2 : (Cond.fieldLink RX0 22 "EarthBanks$DamText" "first" "I") ∈ wAll := r3_sub _ (List.mem_of_getElem? (i := 2) rfl)
theorem k_3_3 : (Cond.fieldLink RX0 25 "EarthBanks$DamText" "behind" "I") ∈ wAll := r3_sub _ (List.mem_of_getElem? (i := 3) rfl)
theorem k_3_4 : (Cond.fieldLink RX0 28 "EarthBanks$DamText" "value" "I") ∈ wAll := r3_sub _ (List.mem_of_getElem? (i := 4) rfl)
theorem k_3_5 : (Cond.methodLink RX6 18 yX2_init) ∈ wAll := r3_sub _ (List.mem_of_getElem? (i := 5) rfl)
theorem k_3_6 : (Cond.instanceMethod yX2_init) ∈ wAll := r3_sub _ (List.mem_of_getElem? (i := 6) rfl)
theorem k_3_7 : (Cond.code yX2_init cX2_init 1 none) ∈ wAll := r3_sub _ (List.mem_of_getElem? (i := 7) rfl)
theorem k_3_8 : (Cond.methodLink RX2 3 objectInit) ∈ wAll := r3_sub _ (List.mem_of_getElem? (i := 8) rfl)
theorem k_3_9 : (Cond.fieldLink RX2 9 "EarthBanks$Slice" "zones" "[I") ∈ wAll := r3_sub _ (List.mem_of_getElem? (i := 9) rfl)
theorem k_3_10 : (Cond.fieldLink RX2 15 "EarthBanks$Slice" "heads" "[I") ∈ wAll := r3_sub _ (List.mem_of_getElem? (i := 10) rfl)
theorem k_3_11 : (Cond.fieldLink RX2 18 "EarthBanks$Slice" "gone" "[I") ∈ wAll := r3_sub _ (List.mem_of_getElem? (i := 11) rfl)
theorem k_3_12 : (Cond.fieldLink RX2 21 "EarthBanks$Slice" "leads" "[I") ∈ wAll := r3_sub _ (List.mem_of_getElem? (i := 12) rfl)
theorem k_3_13 : (Cond.fieldLink RX2 24 "EarthBanks$Slice" "holds" "[I") ∈ wAll := r3_sub _ (List.mem_of_getElem? (i := 13) rfl)
theorem k_3_14 : (Cond.fieldLink RX2 27 "EarthBanks$Slice" "grains" "[I") ∈ wAll := r3_sub _ (List.mem_of_getElem? (i := 14) rfl)
theorem k_3_15 : (Cond.fieldLink RX2 30 "EarthBanks$Slice" "lakeLevel" "I") ∈ wAll := r3_sub _ (List.mem_of_getElem? (i := 15) rfl)
theorem k_3_16 : (Cond.fieldLink RX2 34 "EarthBanks$Slice" "leaving" "[I") ∈ wAll := r3_sub _ (List.mem_of_getElem? (i := 16) rfl)
theorem k_3_17 : (Cond.fieldLink RX2 37 "EarthBanks$Slice" "passing" "[I") ∈ wAll := r3_sub _ (List.mem_of_getElem? (i := 17) rfl)
theorem k_3_18 : (Cond.methodLink RX2 40 yX2_makeBlank) ∈ wAll := r3_sub _ (List.mem_of_getElem? (i := 18) rfl)
theorem k_3_19 : (Cond.instanceMethod yX2_makeBlank) ∈ wAll := r3_sub _ (List.mem_of_getElem? (i := 19) rfl)
theorem k_3_20 : (Cond.selects RX2 yX2_makeBlank yX2_makeBlank) ∈ wAll := r3_sub _ (List.mem_of_getElem? (i := 20) rfl)
theorem k_3_21 : (Cond.code yX2_makeBlank cX2_makeBlank 1 none) ∈ wAll := r3_sub _ (List.mem_of_getElem? (i := 21) rfl)
theorem k_3_22 : (Cond.methodLink RX2 43 yJ7_fill_53178) ∈ wAll := r3_sub _ (List.mem_of_getElem? (i := 22) rfl)
theorem k_3_23 : (Cond.static yJ7_fill_53178) ∈ wAll := r3_sub _ (List.mem_of_getElem? (i := 23) rfl)
theorem r4_sub : ∀ w ∈ wsL_law_r4, w ∈ wAll := fun _ h => List.mem_append_left _ (List.mem_append_left _ (List.mem_append_left _ (List.mem_append_left _ (List.mem_append_left _ (List.mem_append_left _ (List.mem_append_left _ (List.mem_append_left _ (List.mem_append_left _ (List.mem_append_right _ (List.mem_append_right _ (List.mem_append_right _ (List.mem_append_left _ h))))))))))))
theorem k_4_0 : (Cond.initialized RJ7) ∈ wAll := r4_sub _ (List.mem_of_getElem? (i := 0) rfl)
theorem k_4_1 : (Cond.code yJ7_fill_53178 cJ7_fill_53178 4 none) ∈ wAll := r4_sub _ (List.mem_of_getElem? (i := 1) rfl)
theorem k_4_2 : (Cond.instanceMethod yX5_init) ∈ wAll := r4_sub _ (List.mem_of_getElem? (i := 2) rfl)
theorem k_4_3 : (Cond.code yX5_init cX5_init 1 none) ∈ wAll := r4_sub _ (List.mem_of_getElem? (i := 3) rfl)
theorem k_4_4 : (Cond.methodLink RX5 3 objectInit) ∈ wAll := r4_sub _ (List.mem_of_getElem? (i := 4) rfl)
theorem k_4_5 : (Cond.fieldLink RX5 9 "EarthBanks$Works" "kinds" "[I") ∈ wAll := r4_sub _ (List.mem_of_getElem? (i := 5) rfl)
theorem k_4_6 : (Cond.fieldLink RX5 15 "EarthBanks$Works" "places" "[I") ∈ wAll := r4_sub _ (List.mem_of_getElem? (i := 6) rfl)
theorem k_4_7 : (Cond.fieldLink RX5 18 "EarthBanks$Works" "mores" "[I") ∈ wAll := r4_sub _ (List.mem_of_getElem? (i := 7) rfl)
theorem k_4_8 : (Cond.fieldLink RX5 21 "EarthBanks$Works" "prices" "[I") ∈ wAll := r4_sub _ (List.mem_of_getElem? (i := 8) rfl)
theorem k_4_9 : (Cond.fieldLink RX5 24 "EarthBanks$Works" "size" "I") ∈ wAll := r4_sub _ (List.mem_of_getElem? (i := 9) rfl)
theorem k_4_10 : (Cond.instanceMethod yX3_init) ∈ wAll := r4_sub _ (List.mem_of_getElem? (i := 10) rfl)
theorem k_4_11 : (Cond.code yX3_init cX3_init 1 none) ∈ wAll := r4_sub _ (List.mem_of_getElem? (i := 11) rfl)
theorem k_4_12 : (Cond.methodLink RX3 3 objectInit) ∈ wAll := r4_sub _ (List.mem_of_getElem? (i := 12) rfl)
theorem k_4_13 : (Cond.fieldLink RX3 9 "EarthBanks$Slides" "rests" "[I") ∈ wAll := r4_sub _ (List.mem_of_getElem? (i := 13) rfl)
theorem k_4_14 : (Cond.fieldLink RX3 15 "EarthBanks$Slides" "burdens" "[I") ∈ wAll := r4_sub _ (List.mem_of_getElem? (i := 14) rfl)
theorem k_4_15 : (Cond.fieldLink RX3 18 "EarthBanks$Slides" "heights" "[I") ∈ wAll := r4_sub _ (List.mem_of_getElem? (i := 15) rfl)
theorem k_4_16 : (Cond.fieldLink RX3 21 "EarthBanks$Slides" "start" "I") ∈ wAll := r4_sub _ (List.mem_of_getElem? (i := 16) rfl)
theorem k_4_17 : (Cond.fieldLink RX3 25 "EarthBanks$Slides" "aim" "I") ∈ wAll := r4_sub _ (List.mem_of_getElem? (i := 17) rfl)
theorem k_4_18 : (Cond.fieldLink RX3 28 "EarthBanks$Slides" "balances" "[I") ∈ wAll := r4_sub _ (List.mem_of_getElem? (i := 18) rfl)
theorem k_4_19 : (Cond.fieldLink RX3 31 "EarthBanks$Slides" "found" "Z") ∈ wAll := r4_sub _ (List.mem_of_getElem? (i := 19) rfl)
theorem k_4_20 : (Cond.fieldLink RX3 35 "EarthBanks$Slides" "belowAim" "I") ∈ wAll := r4_sub _ (List.mem_of_getElem? (i := 20) rfl)
theorem k_4_21 : (Cond.fieldLink RX3 38 "EarthBanks$Slides" "leastMargin" "I") ∈ wAll := r4_sub _ (List.mem_of_getElem? (i := 21) rfl)
theorem k_4_22 : (Cond.fieldLink RX3 41 "EarthBanks$Slides" "leastStart" "I") ∈ wAll := r4_sub _ (List.mem_of_getElem? (i := 22) rfl)
theorem k_4_23 : (Cond.fieldLink RX3 44 "EarthBanks$Slides" "leastHeights" "[I") ∈ wAll := r4_sub _ (List.mem_of_getElem? (i := 23) rfl)
theorem r5_sub : ∀ w ∈ wsL_law_r5, w ∈ wAll := fun _ h => List.mem_append_left _ (List.mem_append_left _ (List.mem_append_left _ (List.mem_append_left _ (List.mem_append_left _ (List.mem_append_left _ (List.mem_append_left _ (List.mem_append_left _ (List.mem_append_left _ (List.mem_append_right _ (List.mem_append_right _ (List.mem_append_right _ (List.mem_append_right _ (List.mem_append_left _ h)))))))))))))
theorem k_5_0 : (Cond.instanceMethod yX1_init) ∈ wAll := r5_sub _ (List.mem_of_getElem? (i := 0) rfl)
theorem k_5_1 : (Cond.code yX1_init cX1_init 1 none) ∈ wAll := r5_sub _ (List.mem_of_getElem? (i := 1) rfl)
theorem k_5_2 : (Cond.methodLink RX1 3 objectInit) ∈ wAll := r5_sub _ (List.mem_of_getElem? (i := 2) rfl)
theorem k_5_3 : (Cond.fieldLink RX1 9 "EarthBanks$Reservoir" "settings" "[I") ∈ wAll := r5_sub _ (List.mem_of_getElem? (i := 3) rfl)
theorem k_5_4 : (Cond.fieldLink RX1 15 "EarthBanks$Reservoir" "waters" "[I") ∈ wAll := r5_sub _ (List.mem_of_getElem? (i := 4) rfl)
theorem k_5_5 : (Cond.fieldLink RX1 18 "EarthBanks$Reservoir" "hours" "[I") ∈ wAll := r5_sub _ (List.mem_of_getElem? (i := 5) rfl)
theorem k_5_6 : (Cond.fieldLink RX1 21 "EarthBanks$Reservoir" "water" "I") ∈ wAll := r5_sub _ (List.mem_of_getElem? (i := 6) rfl)
theorem k_5_7 : (Cond.fieldLink RX1 25 "EarthBanks$Reservoir" "hoursOver" "I") ∈ wAll := r5_sub _ (List.mem_of_getElem? (i := 7) rfl)
theorem k_5_8 : (Cond.fieldLink RX1 28 "EarthBanks$Reservoir" "town" "I") ∈ wAll := r5_sub _ (List.mem_of_getElem? (i := 8) rfl)
theorem k_5_9 : (Cond.fieldLink RX1 31 "EarthBanks$Reservoir" "letOut" "I") ∈ wAll := r5_sub _ (List.mem_of_getElem? (i := 9) rfl)
theorem k_5_10 : (Cond.instanceMethod yX4_init) ∈ wAll := r5_sub _ (List.mem_of_getElem? (i := 10) rfl)
theorem k_5_11 : (Cond.code yX4_init cX4_init 1 none) ∈ wAll := r5_sub _ (List.mem_of_getElem? (i := 11) rfl)
theorem k_5_12 : (Cond.methodLink RX4 3 objectInit) ∈ wAll := r5_sub _ (List.mem_of_getElem? (i := 12) rfl)
theorem k_5_13 : (Cond.fieldLink RX4 9 "EarthBanks$Watch" "gaugePlaces" "[I") ∈ wAll := r5_sub _ (List.mem_of_getElem? (i := 13) rfl)
theorem k_5_14 : (Cond.fieldLink RX4 15 "EarthBanks$Watch" "gaugeReads" "[I") ∈ wAll := r5_sub _ (List.mem_of_getElem? (i := 14) rfl)
theorem k_5_15 : (Cond.fieldLink RX4 18 "EarthBanks$Watch" "causeZones" "[I") ∈ wAll := r5_sub _ (List.mem_of_getElem? (i := 15) rfl)
theorem k_5_16 : (Cond.fieldLink RX4 21 "EarthBanks$Watch" "causeLeads" "[I") ∈ wAll := r5_sub _ (List.mem_of_getElem? (i := 16) rfl)
theorem k_5_17 : (Cond.fieldLink RX4 24 "EarthBanks$Watch" "leastHeads" "[I") ∈ wAll := r5_sub _ (List.mem_of_getElem? (i := 17) rfl)
theorem k_5_18 : (Cond.fieldLink RX4 27 "EarthBanks$Watch" "greatestHeads" "[I") ∈ wAll := r5_sub _ (List.mem_of_getElem? (i := 18) rfl)
theorem k_5_19 : (Cond.fieldLink RX4 30 "EarthBanks$Watch" "gauges" "I") ∈ wAll := r5_sub _ (List.mem_of_getElem? (i := 19) rfl)
theorem k_5_20 : (Cond.fieldLink RX4 34 "EarthBanks$Watch" "causes" "I") ∈ wAll := r5_sub _ (List.mem_of_getElem? (i := 20) rfl)
theorem k_5_21 : (Cond.fieldLink RX4 37 "EarthBanks$Watch" "slackAllowed" "I") ∈ wAll := r5_sub _ (List.mem_of_getElem? (i := 21) rfl)
theorem k_5_22 : (Cond.methodLink RL 12 yX7_init) ∈ wAll := r5_sub _ (List.mem_of_getElem? (i := 22) rfl)
theorem k_5_23 : (Cond.instanceMethod yX7_init) ∈ wAll := r5_sub _ (List.mem_of_getElem? (i := 23) rfl)
theorem r6_sub : ∀ w ∈ wsL_law_r6, w ∈ wAll := fun _ h => List.mem_append_left _ (List.mem_append_left _ (List.mem_append_left _ (List.mem_append_left _ (List.mem_append_left _ (List.mem_append_left _ (List.mem_append_left _ (List.mem_append_left _ (List.mem_append_left _ (List.mem_append_right _ (List.mem_append_right _ (List.mem_append_right _ (List.mem_append_right _ (List.mem_append_right _ (List.mem_append_left _ h))))))))))))))
theorem k_6_0 : (Cond.code yX7_init cX7_init 1 none) ∈ wAll := r6_sub _ (List.mem_of_getElem? (i := 0) rfl)
theorem k_6_1 : (Cond.methodLink RX7 1 objectInit) ∈ wAll := r6_sub _ (List.mem_of_getElem? (i := 1) rfl)
theorem k_6_2 : (Cond.fieldLink RX7 7 "EarthBanksModel" "s" "[I") ∈ wAll := r6_sub _ (List.mem_of_getElem? (i := 2) rfl)
theorem k_6_3 : (Cond.fieldLink RX7 13 "EarthBanksModel" "kept" "[I") ∈ wAll := r6_sub _ (List.mem_of_getElem? (i := 3) rfl)
theorem k_6_4 : (Cond.arrayClass .boolean) ∈ wAll := r6_sub _ (List.mem_of_getElem? (i := 4) rfl)
theorem k_6_5 : (Cond.fieldLink RX7 16 "EarthBanksModel" "isKept" "[Z") ∈ wAll := r6_sub _ (List.mem_of_getElem? (i := 5) rfl)
theorem k_6_6 : (Cond.fieldLink RX7 20 "EarthBanksModel" "saved" "[I") ∈ wAll := r6_sub _ (List.mem_of_getElem? (i := 6) rfl)
theorem k_6_7 : (Cond.fieldLink RX7 23 "EarthBanksModel" "draft" "[I") ∈ wAll := r6_sub _ (List.mem_of_getElem? (i := 7) rfl)
theorem k_6_8 : (Cond.fieldLink RX7 26 "EarthBanksModel" "text" "[I") ∈ wAll := r6_sub _ (List.mem_of_getElem? (i := 8) rfl)
theorem k_6_9 : (Cond.fieldLink RX7 29 "EarthBanksModel" "f" "I") ∈ wAll := r6_sub _ (List.mem_of_getElem? (i := 9) rfl)
theorem k_6_10 : (Cond.fieldLink RX7 33 "EarthBanksModel" "way" "[I") ∈ wAll := r6_sub _ (List.mem_of_getElem? (i := 10) rfl)
theorem k_6_11 : (Cond.fieldLink RX7 36 "EarthBanksModel" "best" "[I") ∈ wAll := r6_sub _ (List.mem_of_getElem? (i := 11) rfl)
theorem k_6_12 : (Cond.fieldLink RX7 39 "EarthBanksModel" "more" "[I") ∈ wAll := r6_sub _ (List.mem_of_getElem? (i := 12) rfl)
theorem k_6_13 : (Cond.fieldLink RX7 42 "EarthBanksModel" "isDry" "[Z") ∈ wAll := r6_sub _ (List.mem_of_getElem? (i := 13) rfl)
theorem k_6_14 : (Cond.fieldLink RX7 45 "EarthBanksModel" "pool" "[I") ∈ wAll := r6_sub _ (List.mem_of_getElem? (i := 14) rfl)
theorem k_6_15 : (Cond.fieldLink RX7 48 "EarthBanksModel" "hours" "[I") ∈ wAll := r6_sub _ (List.mem_of_getElem? (i := 15) rfl)
theorem k_6_16 : (Cond.fieldLink RX7 51 "EarthBanksModel" "water" "[I") ∈ wAll := r6_sub _ (List.mem_of_getElem? (i := 16) rfl)
theorem k_6_17 : (Cond.fieldLink RX7 54 "EarthBanksModel" "gauge" "[I") ∈ wAll := r6_sub _ (List.mem_of_getElem? (i := 17) rfl)
theorem k_6_18 : (Cond.fieldLink RX7 57 "EarthBanksModel" "cause" "[I") ∈ wAll := r6_sub _ (List.mem_of_getElem? (i := 18) rfl)
theorem k_6_19 : (Cond.fieldLink RX7 60 "EarthBanksModel" "slack" "I") ∈ wAll := r6_sub _ (List.mem_of_getElem? (i := 19) rfl)
theorem k_6_20 : (Cond.fieldLink RX7 63 "EarthBanksModel" "most" "[I") ∈ wAll := r6_sub _ (List.mem_of_getElem? (i := 20) rfl)
theorem k_6_21 : (Cond.fieldLink RX7 66 "EarthBanksModel" "lows" "[I") ∈ wAll := r6_sub _ (List.mem_of_getElem? (i := 21) rfl)
theorem k_6_22 : (Cond.fieldLink RX7 69 "EarthBanksModel" "work" "[I") ∈ wAll := r6_sub _ (List.mem_of_getElem? (i := 22) rfl)
theorem k_6_23 : (Cond.methodLink RX7 72 yX7_begins) ∈ wAll := r6_sub _ (List.mem_of_getElem? (i := 23) rfl)
theorem r7_sub : ∀ w ∈ wsL_law_r7, w ∈ wAll := fun _ h => List.mem_append_left _ (List.mem_append_left _ (List.mem_append_left _ (List.mem_append_left _ (List.mem_append_left _ (List.mem_append_left _ (List.mem_append_left _ (List.mem_append_left _ (List.mem_append_left _ (List.mem_append_right _ (List.mem_append_right _ (List.mem_append_right _ (List.mem_append_right _ (List.mem_append_right _ (List.mem_append_right _ (List.mem_append_left _ h)))))))))))))))
theorem k_7_0 : (Cond.instanceMethod yX7_begins) ∈ wAll := r7_sub _ (List.mem_of_getElem? (i := 0) rfl)
theorem k_7_1 : (Cond.selects RX7 yX7_begins yX7_begins) ∈ wAll := r7_sub _ (List.mem_of_getElem? (i := 1) rfl)
theorem k_7_2 : (Cond.code yX7_begins cX7_begins 2 none) ∈ wAll := r7_sub _ (List.mem_of_getElem? (i := 2) rfl)
theorem k_7_3 : (Cond.methodLink RL 15 yX6_type) ∈ wAll := r7_sub _ (List.mem_of_getElem? (i := 3) rfl)
theorem k_7_4 : (Cond.instanceMethod yX6_type) ∈ wAll := r7_sub _ (List.mem_of_getElem? (i := 4) rfl)
theorem k_7_5 : (Cond.selects RX6 yX6_type yX6_type) ∈ wAll := r7_sub _ (List.mem_of_getElem? (i := 5) rfl)
theorem k_7_6 : (Cond.code yX6_type cX6_type 4 (some .int)) ∈ wAll := r7_sub _ (List.mem_of_getElem? (i := 6) rfl)
theorem k_7_7 : (Cond.fieldLink RX6 80 "EarthBanks$DamText" "length" "I") ∈ wAll := r7_sub _ (List.mem_of_getElem? (i := 7) rfl)
theorem k_7_8 : (Cond.methodLink RX6 72 yX6_within) ∈ wAll := r7_sub _ (List.mem_of_getElem? (i := 8) rfl)
theorem k_7_9 : (Cond.static yX6_within) ∈ wAll := r7_sub _ (List.mem_of_getElem? (i := 9) rfl)
theorem k_7_10 : (Cond.code yX6_within cX6_within 3 (some .boolean)) ∈ wAll := r7_sub _ (List.mem_of_getElem? (i := 10) rfl)
theorem k_7_11 : (Cond.methodLink RX6 76 yX0_append) ∈ wAll := r7_sub _ (List.mem_of_getElem? (i := 11) rfl)
theorem k_7_12 : (Cond.instanceMethod yX0_append) ∈ wAll := r7_sub _ (List.mem_of_getElem? (i := 12) rfl)
theorem k_7_13 : (Cond.selects RX0 yX0_append yX0_append) ∈ wAll := r7_sub _ (List.mem_of_getElem? (i := 13) rfl)
theorem k_7_14 : (Cond.code yX0_append cX0_append 5 (some .boolean)) ∈ wAll := r7_sub _ (List.mem_of_getElem? (i := 14) rfl)
theorem k_7_15 : (Cond.methodLink RL 19 yX7_type) ∈ wAll := r7_sub _ (List.mem_of_getElem? (i := 15) rfl)
theorem k_7_16 : (Cond.instanceMethod yX7_type) ∈ wAll := r7_sub _ (List.mem_of_getElem? (i := 16) rfl)
theorem k_7_17 : (Cond.selects RX7 yX7_type yX7_type) ∈ wAll := r7_sub _ (List.mem_of_getElem? (i := 17) rfl)
theorem k_7_18 : (Cond.code yX7_type cX7_type 5 (some .int)) ∈ wAll := r7_sub _ (List.mem_of_getElem? (i := 18) rfl)
theorem k_7_19 : (Cond.fieldLink RX7 75 "EarthBanksModel" "thrown" "I") ∈ wAll := r7_sub _ (List.mem_of_getElem? (i := 19) rfl)
theorem k_7_20 : (Cond.fieldLink RX7 90 "EarthBanksModel" "typed" "I") ∈ wAll := r7_sub _ (List.mem_of_getElem? (i := 20) rfl)
theorem k_7_21 : (Cond.constantLong RX7 93 (255)) ∈ wAll := r7_sub _ (List.mem_of_getElem? (i := 21) rfl)
theorem k_7_22 : (Cond.methodLink RX7 78 yX7_in) ∈ wAll := r7_sub _ (List.mem_of_getElem? (i := 22) rfl)
theorem k_7_23 : (Cond.static yX7_in) ∈ wAll := r7_sub _ (List.mem_of_getElem? (i := 23) rfl)
theorem r8_sub : ∀ w ∈ wsL_law_r8, w ∈ wAll := fun _ h => List.mem_append_left _ (List.mem_append_left _ (List.mem_append_left _ (List.mem_append_left _ (List.mem_append_left _ (List.mem_append_left _ (List.mem_append_left _ (List.mem_append_left _ (List.mem_append_left _ (List.mem_append_right _ (List.mem_append_right _ (List.mem_append_right _ (List.mem_append_right _ (List.mem_append_right _ (List.mem_append_right _ (List.mem_append_right _ (List.mem_append_left _ h))))))))))))))))
theorem k_8_0 : (Cond.code yX7_in cX7_in 3 (some .boolean)) ∈ wAll := r8_sub _ (List.mem_of_getElem? (i := 0) rfl)
theorem k_8_1 : (Cond.methodLink RL 20 yX6_clear) ∈ wAll := r8_sub _ (List.mem_of_getElem? (i := 1) rfl)
theorem k_8_2 : (Cond.instanceMethod yX6_clear) ∈ wAll := r8_sub _ (List.mem_of_getElem? (i := 2) rfl)
theorem k_8_3 : (Cond.selects RX6 yX6_clear yX6_clear) ∈ wAll := r8_sub _ (List.mem_of_getElem? (i := 3) rfl)
theorem k_8_4 : (Cond.code yX6_clear cX6_clear 1 (some .int)) ∈ wAll := r8_sub _ (List.mem_of_getElem? (i := 4) rfl)
theorem k_8_5 : (Cond.methodLink RX6 83 yX0_drop) ∈ wAll := r8_sub _ (List.mem_of_getElem? (i := 5) rfl)
theorem k_8_6 : (Cond.instanceMethod yX0_drop) ∈ wAll := r8_sub _ (List.mem_of_getElem? (i := 6) rfl)
theorem k_8_7 : (Cond.selects RX0 yX0_drop yX0_drop) ∈ wAll := r8_sub _ (List.mem_of_getElem? (i := 7) rfl)
theorem k_8_8 : (Cond.code yX0_drop cX0_drop 2 (some .int)) ∈ wAll := r8_sub _ (List.mem_of_getElem? (i := 8) rfl)
theorem k_8_9 : (Cond.methodLink RL 24 yX7_clear) ∈ wAll := r8_sub _ (List.mem_of_getElem? (i := 9) rfl)
theorem k_8_10 : (Cond.instanceMethod yX7_clear) ∈ wAll := r8_sub _ (List.mem_of_getElem? (i := 10) rfl)
theorem k_8_11 : (Cond.selects RX7 yX7_clear yX7_clear) ∈ wAll := r8_sub _ (List.mem_of_getElem? (i := 11) rfl)
theorem k_8_12 : (Cond.code yX7_clear cX7_clear 2 (some .int)) ∈ wAll := r8_sub _ (List.mem_of_getElem? (i := 12) rfl)
theorem k_8_13 : (Cond.methodLink RL 25 yX6_dam) ∈ wAll := r8_sub _ (List.mem_of_getElem? (i := 13) rfl)
theorem k_8_14 : (Cond.instanceMethod yX6_dam) ∈ wAll := r8_sub _ (List.mem_of_getElem? (i := 14) rfl)
theorem k_8_15 : (Cond.selects RX6 yX6_dam yX6_dam) ∈ wAll := r8_sub _ (List.mem_of_getElem? (i := 15) rfl)
theorem k_8_16 : (Cond.code yX6_dam cX6_dam 2 (some .int)) ∈ wAll := r8_sub _ (List.mem_of_getElem? (i := 16) rfl)
theorem k_8_17 : (Cond.fieldLink RX6 91 "EarthBanks$Slice" "lakeLevel" "I") ∈ wAll := r8_sub _ (List.mem_of_getElem? (i := 17) rfl)
theorem k_8_18 : (Cond.methodLink RX6 87 yX0_readInto) ∈ wAll := r8_sub _ (List.mem_of_getElem? (i := 18) rfl)
theorem k_8_19 : (Cond.instanceMethod yX0_readInto) ∈ wAll := r8_sub _ (List.mem_of_getElem? (i := 19) rfl)
theorem k_8_20 : (Cond.selects RX0 yX0_readInto yX0_readInto) ∈ wAll := r8_sub _ (List.mem_of_getElem? (i := 20) rfl)
theorem k_8_21 : (Cond.code yX0_readInto cX0_readInto 4 (some .int)) ∈ wAll := r8_sub _ (List.mem_of_getElem? (i := 21) rfl)
theorem k_8_22 : (Cond.methodLink RX0 31 yX2_makeBlank) ∈ wAll := r8_sub _ (List.mem_of_getElem? (i := 22) rfl)
theorem k_8_23 : (Cond.methodLink RX0 36 yX0_takeToken) ∈ wAll := r8_sub _ (List.mem_of_getElem? (i := 23) rfl)
theorem r9_sub : ∀ w ∈ wsL_law_r9, w ∈ wAll := fun _ h => List.mem_append_left _ (List.mem_append_left _ (List.mem_append_left _ (List.mem_append_left _ (List.mem_append_left _ (List.mem_append_left _ (List.mem_append_left _ (List.mem_append_left _ (List.mem_append_left _ (List.mem_append_right _ (List.mem_append_right _ (List.mem_append_right _ (List.mem_append_right _ (List.mem_append_right _ (List.mem_append_right _ (List.mem_append_right _ (List.mem_append_right _ (List.mem_append_left _ h)))))))))))))))))
theorem k_9_0 : (Cond.instanceMethod yX0_takeToken) ∈ wAll := r9_sub _ (List.mem_of_getElem? (i := 0) rfl)
theorem k_9_1 : (Cond.selects RX0 yX0_takeToken yX0_takeToken) ∈ wAll := r9_sub _ (List.mem_of_getElem? (i := 1) rfl)
theorem k_9_2 : (Cond.code yX0_takeToken cX0_takeToken 2 none) ∈ wAll := r9_sub _ (List.mem_of_getElem? (i := 2) rfl)
theorem k_9_3 : (Cond.methodLink RX0 99 yX0_isWordSign) ∈ wAll := r9_sub _ (List.mem_of_getElem? (i := 3) rfl)
theorem k_9_4 : (Cond.static yX0_isWordSign) ∈ wAll := r9_sub _ (List.mem_of_getElem? (i := 4) rfl)
theorem k_9_5 : (Cond.code yX0_isWordSign cX0_isWordSign 1 (some .boolean)) ∈ wAll := r9_sub _ (List.mem_of_getElem? (i := 5) rfl)
theorem k_9_6 : (Cond.methodLink RX0 102 yX0_takeWord) ∈ wAll := r9_sub _ (List.mem_of_getElem? (i := 6) rfl)
theorem k_9_7 : (Cond.instanceMethod yX0_takeWord) ∈ wAll := r9_sub _ (List.mem_of_getElem? (i := 7) rfl)
theorem k_9_8 : (Cond.selects RX0 yX0_takeWord yX0_takeWord) ∈ wAll := r9_sub _ (List.mem_of_getElem? (i := 8) rfl)
theorem k_9_9 : (Cond.code yX0_takeWord cX0_takeWord 1 none) ∈ wAll := r9_sub _ (List.mem_of_getElem? (i := 9) rfl)
theorem k_9_10 : (Cond.methodLink RX0 105 yX0_isDigit) ∈ wAll := r9_sub _ (List.mem_of_getElem? (i := 10) rfl)
theorem k_9_11 : (Cond.static yX0_isDigit) ∈ wAll := r9_sub _ (List.mem_of_getElem? (i := 11) rfl)
theorem k_9_12 : (Cond.code yX0_isDigit cX0_isDigit 1 (some .boolean)) ∈ wAll := r9_sub _ (List.mem_of_getElem? (i := 12) rfl)
theorem k_9_13 : (Cond.methodLink RX0 108 yX0_takeDigits) ∈ wAll := r9_sub _ (List.mem_of_getElem? (i := 13) rfl)
theorem k_9_14 : (Cond.instanceMethod yX0_takeDigits) ∈ wAll := r9_sub _ (List.mem_of_getElem? (i := 14) rfl)
theorem k_9_15 : (Cond.selects RX0 yX0_takeDigits yX0_takeDigits) ∈ wAll := r9_sub _ (List.mem_of_getElem? (i := 15) rfl)
theorem k_9_16 : (Cond.code yX0_takeDigits cX0_takeDigits 2 none) ∈ wAll := r9_sub _ (List.mem_of_getElem? (i := 16) rfl)
theorem k_9_17 : (Cond.methodLink RX0 111 Lib.Math.min.name) ∈ wAll := r9_sub _ (List.mem_of_getElem? (i := 17) rfl)
theorem k_9_18 : (Cond.static Lib.Math.min.name) ∈ wAll := r9_sub _ (List.mem_of_getElem? (i := 18) rfl)
theorem k_9_19 : (Cond.initialized "java/lang/Math") ∈ wAll := r9_sub _ (List.mem_of_getElem? (i := 19) rfl)
theorem k_9_20 : (Cond.code Lib.Math.min.name Lib.Math.min.code 2 (some .int)) ∈ wAll := r9_sub _ (List.mem_of_getElem? (i := 20) rfl)
theorem k_9_21 : (Cond.methodLink RX0 41 yX0_isWord) ∈ wAll := r9_sub _ (List.mem_of_getElem? (i := 21) rfl)
theorem k_9_22 : (Cond.instanceMethod yX0_isWord) ∈ wAll := r9_sub _ (List.mem_of_getElem? (i := 22) rfl)
theorem k_9_23 : (Cond.selects RX0 yX0_isWord yX0_isWord) ∈ wAll := r9_sub _ (List.mem_of_getElem? (i := 23) rfl)
theorem r10_sub : ∀ w ∈ wsL_law_r10, w ∈ wAll := fun _ h => List.mem_append_left _ (List.mem_append_left _ (List.mem_append_left _ (List.mem_append_left _ (List.mem_append_left _ (List.mem_append_left _ (List.mem_append_left _ (List.mem_append_left _ (List.mem_append_left _ (List.mem_append_right _ (List.mem_append_right _ (List.mem_append_right _ (List.mem_append_right _ (List.mem_append_right _ (List.mem_append_right _ (List.mem_append_right _ (List.mem_append_right _ (List.mem_append_right _ (List.mem_append_left _ h))))))))))))))))))
theorem k_10_0 : (Cond.code yX0_isWord cX0_isWord 3 (some .boolean)) ∈ wAll := r10_sub _ (List.mem_of_getElem? (i := 0) rfl)
theorem k_10_1 : (Cond.methodLink RX0 90 yJ0_length_8abf5) ∈ wAll := r10_sub _ (List.mem_of_getElem? (i := 1) rfl)
theorem k_10_2 : (Cond.instanceMethod yJ0_length_8abf5) ∈ wAll := r10_sub _ (List.mem_of_getElem? (i := 2) rfl)
theorem k_10_3 : (Cond.selects RJ0 yJ0_length_8abf5 yJ0_length_8abf5) ∈ wAll := r10_sub _ (List.mem_of_getElem? (i := 3) rfl)
theorem k_10_4 : (Cond.initialized RJ0) ∈ wAll := r10_sub _ (List.mem_of_getElem? (i := 4) rfl)
theorem k_10_5 : (Cond.code yJ0_length_8abf5 cJ0_length_8abf5 1 (some .int)) ∈ wAll := r10_sub _ (List.mem_of_getElem? (i := 5) rfl)
theorem k_10_6 : (Cond.fieldLink RJ0 9 "java/lang/String" "value" "[B") ∈ wAll := r10_sub _ (List.mem_of_getElem? (i := 6) rfl)
theorem k_10_7 : (Cond.methodLink RJ0 335 yJ0_coder_7d493) ∈ wAll := r10_sub _ (List.mem_of_getElem? (i := 7) rfl)
theorem k_10_8 : (Cond.instanceMethod yJ0_coder_7d493) ∈ wAll := r10_sub _ (List.mem_of_getElem? (i := 8) rfl)
theorem k_10_9 : (Cond.selects RJ0 yJ0_coder_7d493 yJ0_coder_7d493) ∈ wAll := r10_sub _ (List.mem_of_getElem? (i := 9) rfl)
theorem k_10_10 : (Cond.code yJ0_coder_7d493 cJ0_coder_7d493 1 (some .byte)) ∈ wAll := r10_sub _ (List.mem_of_getElem? (i := 10) rfl)
theorem k_10_11 : (Cond.fieldLink RJ0 38 "java/lang/String" "COMPACT_STRINGS" "Z") ∈ wAll := r10_sub _ (List.mem_of_getElem? (i := 11) rfl)
theorem k_10_12 : (Cond.fieldLink RJ0 15 "java/lang/String" "coder" "B") ∈ wAll := r10_sub _ (List.mem_of_getElem? (i := 12) rfl)
theorem k_10_13 : (Cond.methodLink RX0 95 yJ0_charAt_5068e) ∈ wAll := r10_sub _ (List.mem_of_getElem? (i := 13) rfl)
theorem k_10_14 : (Cond.instanceMethod yJ0_charAt_5068e) ∈ wAll := r10_sub _ (List.mem_of_getElem? (i := 14) rfl)
theorem k_10_15 : (Cond.selects RJ0 yJ0_charAt_5068e yJ0_charAt_5068e) ∈ wAll := r10_sub _ (List.mem_of_getElem? (i := 15) rfl)
theorem k_10_16 : (Cond.code yJ0_charAt_5068e cJ0_charAt_5068e 2 (some .char)) ∈ wAll := r10_sub _ (List.mem_of_getElem? (i := 16) rfl)
theorem k_10_17 : (Cond.methodLink RJ0 492 yJ0_isLatin1_aae02) ∈ wAll := r10_sub _ (List.mem_of_getElem? (i := 17) rfl)
theorem k_10_18 : (Cond.instanceMethod yJ0_isLatin1_aae02) ∈ wAll := r10_sub _ (List.mem_of_getElem? (i := 18) rfl)
theorem k_10_19 : (Cond.selects RJ0 yJ0_isLatin1_aae02 yJ0_isLatin1_aae02) ∈ wAll := r10_sub _ (List.mem_of_getElem? (i := 19) rfl)
theorem k_10_20 : (Cond.code yJ0_isLatin1_aae02 cJ0_isLatin1_aae02 1 (some .boolean)) ∈ wAll := r10_sub _ (List.mem_of_getElem? (i := 20) rfl)
theorem k_10_21 : (Cond.methodLink RJ0 495 yJ1_charAt_3b067) ∈ wAll := r10_sub _ (List.mem_of_getElem? (i := 21) rfl)
theorem k_10_22 : (Cond.static yJ1_charAt_3b067) ∈ wAll := r10_sub _ (List.mem_of_getElem? (i := 22) rfl)
theorem k_10_23 : (Cond.initialized RJ1) ∈ wAll := r10_sub _ (List.mem_of_getElem? (i := 23) rfl)
theorem r11_sub : ∀ w ∈ wsL_law_r11, w ∈ wAll := fun _ h => List.mem_append_left _ (List.mem_append_left _ (List.mem_append_left _ (List.mem_append_left _ (List.mem_append_left _ (List.mem_append_left _ (List.mem_append_left _ (List.mem_append_left _ (List.mem_append_left _ (List.mem_append_right _ (List.mem_append_right _ (List.mem_append_right _ (List.mem_append_right _ (List.mem_append_right _ (List.mem_append_right _ (List.mem_append_right _ (List.mem_append_right _ (List.mem_append_right _ (List.mem_append_right _ (List.mem_append_left _ h)))))))))))))))))))
theorem k_11_0 : (Cond.code yJ1_charAt_3b067 cJ1_charAt_3b067 2 (some .char)) ∈ wAll := r11_sub _ (List.mem_of_getElem? (i := 0) rfl)
theorem k_11_1 : (Cond.methodLink RJ1 9 yJ0_checkIndex_df160) ∈ wAll := r11_sub _ (List.mem_of_getElem? (i := 1) rfl)
theorem k_11_2 : (Cond.static yJ0_checkIndex_df160) ∈ wAll := r11_sub _ (List.mem_of_getElem? (i := 2) rfl)
theorem k_11_3 : (Cond.code yJ0_checkIndex_df160 cJ0_checkIndex_df160 2 none) ∈ wAll := r11_sub _ (List.mem_of_getElem? (i := 3) rfl)
theorem k_11_4 : (Cond.fieldLink RJ0 1053 "jdk/internal/util/Preconditions" "SIOOBE_FORMATTER" "Ljava/util/function/BiFunction;") ∈ wAll := r11_sub _ (List.mem_of_getElem? (i := 4) rfl)
theorem k_11_5 : (Cond.methodLink RJ0 1059 yJ3_checkIndex_8e157) ∈ wAll := r11_sub _ (List.mem_of_getElem? (i := 5) rfl)
theorem k_11_6 : (Cond.static yJ3_checkIndex_8e157) ∈ wAll := r11_sub _ (List.mem_of_getElem? (i := 6) rfl)
theorem k_11_7 : (Cond.initialized RJ3) ∈ wAll := r11_sub _ (List.mem_of_getElem? (i := 7) rfl)
theorem k_11_8 : (Cond.code yJ3_checkIndex_8e157 cJ3_checkIndex_8e157 3 (some .int)) ∈ wAll := r11_sub _ (List.mem_of_getElem? (i := 8) rfl)
theorem k_11_9 : (Cond.methodLink RJ0 498 yJ2_charAt_3b067) ∈ wAll := r11_sub _ (List.mem_of_getElem? (i := 9) rfl)
theorem k_11_10 : (Cond.static yJ2_charAt_3b067) ∈ wAll := r11_sub _ (List.mem_of_getElem? (i := 10) rfl)
theorem k_11_11 : (Cond.initialized RJ2) ∈ wAll := r11_sub _ (List.mem_of_getElem? (i := 11) rfl)
theorem k_11_12 : (Cond.code yJ2_charAt_3b067 cJ2_charAt_3b067 2 (some .char)) ∈ wAll := r11_sub _ (List.mem_of_getElem? (i := 12) rfl)
theorem k_11_13 : (Cond.methodLink RJ2 67 yJ2_checkIndex_2214a) ∈ wAll := r11_sub _ (List.mem_of_getElem? (i := 13) rfl)
theorem k_11_14 : (Cond.static yJ2_checkIndex_2214a) ∈ wAll := r11_sub _ (List.mem_of_getElem? (i := 14) rfl)
theorem k_11_15 : (Cond.code yJ2_checkIndex_2214a cJ2_checkIndex_2214a 2 none) ∈ wAll := r11_sub _ (List.mem_of_getElem? (i := 15) rfl)
theorem k_11_16 : (Cond.methodLink RJ2 48 yJ2_length_9d52b) ∈ wAll := r11_sub _ (List.mem_of_getElem? (i := 16) rfl)
theorem k_11_17 : (Cond.static yJ2_length_9d52b) ∈ wAll := r11_sub _ (List.mem_of_getElem? (i := 17) rfl)
theorem k_11_18 : (Cond.code yJ2_length_9d52b cJ2_length_9d52b 1 (some .int)) ∈ wAll := r11_sub _ (List.mem_of_getElem? (i := 18) rfl)
theorem k_11_19 : (Cond.methodLink RJ2 414 yJ0_checkIndex_df160) ∈ wAll := r11_sub _ (List.mem_of_getElem? (i := 19) rfl)
theorem k_11_20 : (Cond.methodLink RJ2 71 yJ2_getChar_3b067) ∈ wAll := r11_sub _ (List.mem_of_getElem? (i := 20) rfl)
theorem k_11_21 : (Cond.static yJ2_getChar_3b067) ∈ wAll := r11_sub _ (List.mem_of_getElem? (i := 21) rfl)
theorem k_11_22 : (Cond.code yJ2_getChar_3b067 cJ2_getChar_3b067 2 (some .char)) ∈ wAll := r11_sub _ (List.mem_of_getElem? (i := 22) rfl)
theorem k_11_23 : (Cond.fieldLink RJ2 44 "java/lang/StringUTF16" "$assertionsDisabled" "Z") ∈ wAll := r11_sub _ (List.mem_of_getElem? (i := 23) rfl)
theorem r12_sub : ∀ w ∈ wsL_law_r12, w ∈ wAll := fun _ h => List.mem_append_left _ (List.mem_append_left _ (List.mem_append_left _ (List.mem_append_left _ (List.mem_append_left _ (List.mem_append_left _ (List.mem_append_left _ (List.mem_append_left _ (List.mem_append_left _ (List.mem_append_right _ (List.mem_append_right _ (List.mem_append_right _ (List.mem_append_right _ (List.mem_append_right _ (List.mem_append_right _ (List.mem_append_right _ (List.mem_append_right _ (List.mem_append_right _ (List.mem_append_right _ (List.mem_append_right _ (List.mem_append_left _ h))))))))))))))))))))
theorem k_12_0 : (Cond.fieldLink RJ2 59 "java/lang/StringUTF16" "HI_BYTE_SHIFT" "I") ∈ wAll := r12_sub _ (List.mem_of_getElem? (i := 0) rfl)
theorem k_12_1 : (Cond.fieldLink RJ2 63 "java/lang/StringUTF16" "LO_BYTE_SHIFT" "I") ∈ wAll := r12_sub _ (List.mem_of_getElem? (i := 1) rfl)
theorem k_12_2 : (Cond.methodLink RX0 45 yX0_readZone) ∈ wAll := r12_sub _ (List.mem_of_getElem? (i := 2) rfl)
theorem k_12_3 : (Cond.instanceMethod yX0_readZone) ∈ wAll := r12_sub _ (List.mem_of_getElem? (i := 3) rfl)
theorem k_12_4 : (Cond.selects RX0 yX0_readZone yX0_readZone) ∈ wAll := r12_sub _ (List.mem_of_getElem? (i := 4) rfl)
theorem k_12_5 : (Cond.code yX0_readZone cX0_readZone 3 (some .boolean)) ∈ wAll := r12_sub _ (List.mem_of_getElem? (i := 5) rfl)
theorem k_12_6 : (Cond.fieldLink RX0 66 "EarthBanks$Slice" "leads" "[I") ∈ wAll := r12_sub _ (List.mem_of_getElem? (i := 6) rfl)
theorem k_12_7 : (Cond.fieldLink RX0 69 "EarthBanks$Slice" "holds" "[I") ∈ wAll := r12_sub _ (List.mem_of_getElem? (i := 7) rfl)
theorem k_12_8 : (Cond.fieldLink RX0 72 "EarthBanks$Slice" "grains" "[I") ∈ wAll := r12_sub _ (List.mem_of_getElem? (i := 8) rfl)
theorem k_12_9 : (Cond.methodLink RX0 54 yX0_zoneOf) ∈ wAll := r12_sub _ (List.mem_of_getElem? (i := 9) rfl)
theorem k_12_10 : (Cond.static yX0_zoneOf) ∈ wAll := r12_sub _ (List.mem_of_getElem? (i := 10) rfl)
theorem k_12_11 : (Cond.code yX0_zoneOf cX0_zoneOf 1 (some .int)) ∈ wAll := r12_sub _ (List.mem_of_getElem? (i := 11) rfl)
theorem k_12_12 : (Cond.static yX6_isZone) ∈ wAll := r12_sub _ (List.mem_of_getElem? (i := 12) rfl)
theorem k_12_13 : (Cond.code yX6_isZone cX6_isZone 1 (some .boolean)) ∈ wAll := r12_sub _ (List.mem_of_getElem? (i := 13) rfl)
theorem k_12_14 : (Cond.methodLink RX0 62 yX0_takeNumber) ∈ wAll := r12_sub _ (List.mem_of_getElem? (i := 14) rfl)
theorem k_12_15 : (Cond.instanceMethod yX0_takeNumber) ∈ wAll := r12_sub _ (List.mem_of_getElem? (i := 15) rfl)
theorem k_12_16 : (Cond.selects RX0 yX0_takeNumber yX0_takeNumber) ∈ wAll := r12_sub _ (List.mem_of_getElem? (i := 16) rfl)
theorem k_12_17 : (Cond.code yX0_takeNumber cX0_takeNumber 3 (some .boolean)) ∈ wAll := r12_sub _ (List.mem_of_getElem? (i := 17) rfl)
theorem k_12_18 : (Cond.methodLink RX0 75 yX0_takeStop) ∈ wAll := r12_sub _ (List.mem_of_getElem? (i := 18) rfl)
theorem k_12_19 : (Cond.instanceMethod yX0_takeStop) ∈ wAll := r12_sub _ (List.mem_of_getElem? (i := 19) rfl)
theorem k_12_20 : (Cond.selects RX0 yX0_takeStop yX0_takeStop) ∈ wAll := r12_sub _ (List.mem_of_getElem? (i := 20) rfl)
theorem k_12_21 : (Cond.code yX0_takeStop cX0_takeStop 1 (some .boolean)) ∈ wAll := r12_sub _ (List.mem_of_getElem? (i := 21) rfl)
theorem k_12_22 : (Cond.methodLink RX0 51 yX0_readRow) ∈ wAll := r12_sub _ (List.mem_of_getElem? (i := 22) rfl)
theorem k_12_23 : (Cond.instanceMethod yX0_readRow) ∈ wAll := r12_sub _ (List.mem_of_getElem? (i := 23) rfl)
theorem r13_sub : ∀ w ∈ wsL_law_r13, w ∈ wAll := fun _ h => List.mem_append_left _ (List.mem_append_left _ (List.mem_append_left _ (List.mem_append_left _ (List.mem_append_left _ (List.mem_append_left _ (List.mem_append_left _ (List.mem_append_left _ (List.mem_append_left _ (List.mem_append_right _ (List.mem_append_right _ (List.mem_append_right _ (List.mem_append_right _ (List.mem_append_right _ (List.mem_append_right _ (List.mem_append_right _ (List.mem_append_right _ (List.mem_append_right _ (List.mem_append_right _ (List.mem_append_right _ (List.mem_append_right _ (List.mem_append_left _ h)))))))))))))))))))))
theorem k_13_0 : (Cond.selects RX0 yX0_readRow yX0_readRow) ∈ wAll := r13_sub _ (List.mem_of_getElem? (i := 0) rfl)
theorem k_13_1 : (Cond.code yX0_readRow cX0_readRow 5 (some .boolean)) ∈ wAll := r13_sub _ (List.mem_of_getElem? (i := 1) rfl)
theorem k_13_2 : (Cond.fieldLink RX0 79 "EarthBanks$Slice" "zones" "[I") ∈ wAll := r13_sub _ (List.mem_of_getElem? (i := 2) rfl)
theorem k_13_3 : (Cond.static yX6_placeOf) ∈ wAll := r13_sub _ (List.mem_of_getElem? (i := 3) rfl)
theorem k_13_4 : (Cond.code yX6_placeOf cX6_placeOf 2 (some .int)) ∈ wAll := r13_sub _ (List.mem_of_getElem? (i := 4) rfl)
theorem k_13_5 : (Cond.methodLink RX6 94 yX2_copy) ∈ wAll := r13_sub _ (List.mem_of_getElem? (i := 5) rfl)
theorem k_13_6 : (Cond.instanceMethod yX2_copy) ∈ wAll := r13_sub _ (List.mem_of_getElem? (i := 6) rfl)
theorem k_13_7 : (Cond.selects RX2 yX2_copy yX2_copy) ∈ wAll := r13_sub _ (List.mem_of_getElem? (i := 7) rfl)
theorem k_13_8 : (Cond.code yX2_copy cX2_copy 2 none) ∈ wAll := r13_sub _ (List.mem_of_getElem? (i := 8) rfl)
theorem k_13_9 : (Cond.methodLink RX2 49 arraycopyName) ∈ wAll := r13_sub _ (List.mem_of_getElem? (i := 9) rfl)
theorem k_13_10 : (Cond.native arraycopyName) ∈ wAll := r13_sub _ (List.mem_of_getElem? (i := 10) rfl)
theorem k_13_11 : (Cond.static arraycopyName) ∈ wAll := r13_sub _ (List.mem_of_getElem? (i := 11) rfl)
theorem k_13_12 : (Cond.initialized "java/lang/System") ∈ wAll := r13_sub _ (List.mem_of_getElem? (i := 12) rfl)
theorem k_13_13 : (Cond.methodLink RX6 98 yX2_earthCells) ∈ wAll := r13_sub _ (List.mem_of_getElem? (i := 13) rfl)
theorem k_13_14 : (Cond.instanceMethod yX2_earthCells) ∈ wAll := r13_sub _ (List.mem_of_getElem? (i := 14) rfl)
theorem k_13_15 : (Cond.selects RX2 yX2_earthCells yX2_earthCells) ∈ wAll := r13_sub _ (List.mem_of_getElem? (i := 15) rfl)
theorem k_13_16 : (Cond.code yX2_earthCells cX2_earthCells 3 (some .int)) ∈ wAll := r13_sub _ (List.mem_of_getElem? (i := 16) rfl)
theorem k_13_17 : (Cond.methodLink RX2 65 yX2_isEarth) ∈ wAll := r13_sub _ (List.mem_of_getElem? (i := 17) rfl)
theorem k_13_18 : (Cond.instanceMethod yX2_isEarth) ∈ wAll := r13_sub _ (List.mem_of_getElem? (i := 18) rfl)
theorem k_13_19 : (Cond.selects RX2 yX2_isEarth yX2_isEarth) ∈ wAll := r13_sub _ (List.mem_of_getElem? (i := 19) rfl)
theorem k_13_20 : (Cond.code yX2_isEarth cX2_isEarth 2 (some .boolean)) ∈ wAll := r13_sub _ (List.mem_of_getElem? (i := 20) rfl)
theorem k_13_21 : (Cond.methodLink RX2 55 yX2_isAir) ∈ wAll := r13_sub _ (List.mem_of_getElem? (i := 21) rfl)
theorem k_13_22 : (Cond.instanceMethod yX2_isAir) ∈ wAll := r13_sub _ (List.mem_of_getElem? (i := 22) rfl)
theorem k_13_23 : (Cond.selects RX2 yX2_isAir yX2_isAir) ∈ wAll := r13_sub _ (List.mem_of_getElem? (i := 23) rfl)
theorem r14_sub : ∀ w ∈ wsL_law_r14, w ∈ wAll := fun _ h => List.mem_append_left _ (List.mem_append_left _ (List.mem_append_left _ (List.mem_append_left _ (List.mem_append_left _ (List.mem_append_left _ (List.mem_append_left _ (List.mem_append_left _ (List.mem_append_left _ (List.mem_append_right _ (List.mem_append_right _ (List.mem_append_right _ (List.mem_append_right _ (List.mem_append_right _ (List.mem_append_right _ (List.mem_append_right _ (List.mem_append_right _ (List.mem_append_right _ (List.mem_append_right _ (List.mem_append_right _ (List.mem_append_right _ (List.mem_append_right _ (List.mem_append_left _ h))))))))))))))))))))))
theorem k_14_0 : (Cond.code yX2_isAir cX2_isAir 3 (some .boolean)) ∈ wAll := r14_sub _ (List.mem_of_getElem? (i := 0) rfl)
theorem k_14_1 : (Cond.methodLink RL 28 yX7_dam) ∈ wAll := r14_sub _ (List.mem_of_getElem? (i := 1) rfl)
theorem k_14_2 : (Cond.instanceMethod yX7_dam) ∈ wAll := r14_sub _ (List.mem_of_getElem? (i := 2) rfl)
theorem k_14_3 : (Cond.selects RX7 yX7_dam yX7_dam) ∈ wAll := r14_sub _ (List.mem_of_getElem? (i := 3) rfl)
theorem k_14_4 : (Cond.code yX7_dam cX7_dam 3 (some .int)) ∈ wAll := r14_sub _ (List.mem_of_getElem? (i := 4) rfl)
theorem k_14_5 : (Cond.fieldLink RX7 113 "EarthBanksModel" "fault" "I") ∈ wAll := r14_sub _ (List.mem_of_getElem? (i := 5) rfl)
theorem k_14_6 : (Cond.fieldLink RX7 95 "EarthBanksModel" "next" "I") ∈ wAll := r14_sub _ (List.mem_of_getElem? (i := 6) rfl)
theorem k_14_7 : (Cond.fieldLink RX7 104 "EarthBanksModel" "token" "I") ∈ wAll := r14_sub _ (List.mem_of_getElem? (i := 7) rfl)
theorem k_14_8 : (Cond.methodLink RX7 123 yX7_advances) ∈ wAll := r14_sub _ (List.mem_of_getElem? (i := 8) rfl)
theorem k_14_9 : (Cond.instanceMethod yX7_advances) ∈ wAll := r14_sub _ (List.mem_of_getElem? (i := 9) rfl)
theorem k_14_10 : (Cond.selects RX7 yX7_advances yX7_advances) ∈ wAll := r14_sub _ (List.mem_of_getElem? (i := 10) rfl)
theorem k_14_11 : (Cond.code yX7_advances cX7_advances 2 none) ∈ wAll := r14_sub _ (List.mem_of_getElem? (i := 11) rfl)
theorem k_14_12 : (Cond.fieldLink RX7 101 "EarthBanksModel" "place" "I") ∈ wAll := r14_sub _ (List.mem_of_getElem? (i := 12) rfl)
theorem k_14_13 : (Cond.fieldLink RX7 110 "EarthBanksModel" "value" "I") ∈ wAll := r14_sub _ (List.mem_of_getElem? (i := 13) rfl)
theorem k_14_14 : (Cond.methodLink RX7 98 yX7_byteAt) ∈ wAll := r14_sub _ (List.mem_of_getElem? (i := 14) rfl)
theorem k_14_15 : (Cond.instanceMethod yX7_byteAt) ∈ wAll := r14_sub _ (List.mem_of_getElem? (i := 15) rfl)
theorem k_14_16 : (Cond.selects RX7 yX7_byteAt yX7_byteAt) ∈ wAll := r14_sub _ (List.mem_of_getElem? (i := 16) rfl)
theorem k_14_17 : (Cond.code yX7_byteAt cX7_byteAt 2 (some .int)) ∈ wAll := r14_sub _ (List.mem_of_getElem? (i := 17) rfl)
theorem k_14_18 : (Cond.methodLink RX7 107 yX7_isLetter) ∈ wAll := r14_sub _ (List.mem_of_getElem? (i := 18) rfl)
theorem k_14_19 : (Cond.static yX7_isLetter) ∈ wAll := r14_sub _ (List.mem_of_getElem? (i := 19) rfl)
theorem k_14_20 : (Cond.code yX7_isLetter cX7_isLetter 1 (some .boolean)) ∈ wAll := r14_sub _ (List.mem_of_getElem? (i := 20) rfl)
theorem k_14_21 : (Cond.methodLink RX7 116 yX7_isWell) ∈ wAll := r14_sub _ (List.mem_of_getElem? (i := 21) rfl)
theorem k_14_22 : (Cond.instanceMethod yX7_isWell) ∈ wAll := r14_sub _ (List.mem_of_getElem? (i := 22) rfl)
theorem k_14_23 : (Cond.selects RX7 yX7_isWell yX7_isWell) ∈ wAll := r14_sub _ (List.mem_of_getElem? (i := 23) rfl)
theorem r15_sub : ∀ w ∈ wsL_law_r15, w ∈ wAll := fun _ h => List.mem_append_left _ (List.mem_append_left _ (List.mem_append_left _ (List.mem_append_left _ (List.mem_append_left _ (List.mem_append_left _ (List.mem_append_left _ (List.mem_append_left _ (List.mem_append_left _ (List.mem_append_right _ (List.mem_append_right _ (List.mem_append_right _ (List.mem_append_right _ (List.mem_append_right _ (List.mem_append_right _ (List.mem_append_right _ (List.mem_append_right _ (List.mem_append_right _ (List.mem_append_right _ (List.mem_append_right _ (List.mem_append_right _ (List.mem_append_right _ (List.mem_append_right _ (List.mem_append_left _ h)))))))))))))))))))))))
theorem k_15_0 : (Cond.code yX7_isWell cX7_isWell 1 (some .boolean)) ∈ wAll := r15_sub _ (List.mem_of_getElem? (i := 0) rfl)
theorem k_15_1 : (Cond.methodLink RX7 130 yX7_isWord) ∈ wAll := r15_sub _ (List.mem_of_getElem? (i := 1) rfl)
theorem k_15_2 : (Cond.instanceMethod yX7_isWord) ∈ wAll := r15_sub _ (List.mem_of_getElem? (i := 2) rfl)
theorem k_15_3 : (Cond.selects RX7 yX7_isWord yX7_isWord) ∈ wAll := r15_sub _ (List.mem_of_getElem? (i := 3) rfl)
theorem k_15_4 : (Cond.code yX7_isWord cX7_isWord 6 (some .boolean)) ∈ wAll := r15_sub _ (List.mem_of_getElem? (i := 4) rfl)
theorem k_15_5 : (Cond.methodLink RX7 120 yX7_fails) ∈ wAll := r15_sub _ (List.mem_of_getElem? (i := 5) rfl)
theorem k_15_6 : (Cond.instanceMethod yX7_fails) ∈ wAll := r15_sub _ (List.mem_of_getElem? (i := 6) rfl)
theorem k_15_7 : (Cond.selects RX7 yX7_fails yX7_fails) ∈ wAll := r15_sub _ (List.mem_of_getElem? (i := 7) rfl)
theorem k_15_8 : (Cond.code yX7_fails cX7_fails 1 none) ∈ wAll := r15_sub _ (List.mem_of_getElem? (i := 8) rfl)
theorem k_15_9 : (Cond.methodLink RX7 134 yX7_readsZone) ∈ wAll := r15_sub _ (List.mem_of_getElem? (i := 9) rfl)
theorem k_15_10 : (Cond.instanceMethod yX7_readsZone) ∈ wAll := r15_sub _ (List.mem_of_getElem? (i := 10) rfl)
theorem k_15_11 : (Cond.selects RX7 yX7_readsZone yX7_readsZone) ∈ wAll := r15_sub _ (List.mem_of_getElem? (i := 11) rfl)
theorem k_15_12 : (Cond.code yX7_readsZone cX7_readsZone 3 none) ∈ wAll := r15_sub _ (List.mem_of_getElem? (i := 12) rfl)
theorem k_15_13 : (Cond.methodLink RX7 126 yX7_takesNumber) ∈ wAll := r15_sub _ (List.mem_of_getElem? (i := 13) rfl)
theorem k_15_14 : (Cond.instanceMethod yX7_takesNumber) ∈ wAll := r15_sub _ (List.mem_of_getElem? (i := 14) rfl)
theorem k_15_15 : (Cond.selects RX7 yX7_takesNumber yX7_takesNumber) ∈ wAll := r15_sub _ (List.mem_of_getElem? (i := 15) rfl)
theorem k_15_16 : (Cond.code yX7_takesNumber cX7_takesNumber 4 (some .int)) ∈ wAll := r15_sub _ (List.mem_of_getElem? (i := 16) rfl)
theorem k_15_17 : (Cond.methodLink RX7 137 yX7_readsRow) ∈ wAll := r15_sub _ (List.mem_of_getElem? (i := 17) rfl)
theorem k_15_18 : (Cond.instanceMethod yX7_readsRow) ∈ wAll := r15_sub _ (List.mem_of_getElem? (i := 18) rfl)
theorem k_15_19 : (Cond.selects RX7 yX7_readsRow yX7_readsRow) ∈ wAll := r15_sub _ (List.mem_of_getElem? (i := 19) rfl)
theorem k_15_20 : (Cond.code yX7_readsRow cX7_readsRow 5 none) ∈ wAll := r15_sub _ (List.mem_of_getElem? (i := 20) rfl)
theorem k_15_21 : (Cond.methodLink RX7 140 yX7_earth) ∈ wAll := r15_sub _ (List.mem_of_getElem? (i := 21) rfl)
theorem k_15_22 : (Cond.instanceMethod yX7_earth) ∈ wAll := r15_sub _ (List.mem_of_getElem? (i := 22) rfl)
theorem k_15_23 : (Cond.selects RX7 yX7_earth yX7_earth) ∈ wAll := r15_sub _ (List.mem_of_getElem? (i := 23) rfl)
theorem r16_sub : ∀ w ∈ wsL_law_r16, w ∈ wAll := fun _ h => List.mem_append_left _ (List.mem_append_left _ (List.mem_append_left _ (List.mem_append_left _ (List.mem_append_left _ (List.mem_append_left _ (List.mem_append_left _ (List.mem_append_left _ (List.mem_append_left _ (List.mem_append_right _ (List.mem_append_right _ (List.mem_append_right _ (List.mem_append_right _ (List.mem_append_right _ (List.mem_append_right _ (List.mem_append_right _ (List.mem_append_right _ (List.mem_append_right _ (List.mem_append_right _ (List.mem_append_right _ (List.mem_append_right _ (List.mem_append_right _ (List.mem_append_right _ (List.mem_append_right _ (List.mem_append_left _ h))))))))))))))))))))))))
theorem k_16_0 : (Cond.code yX7_earth cX7_earth 3 (some .int)) ∈ wAll := r16_sub _ (List.mem_of_getElem? (i := 0) rfl)
theorem k_16_1 : (Cond.methodLink RX7 82 yX7_isEarth) ∈ wAll := r16_sub _ (List.mem_of_getElem? (i := 1) rfl)
theorem k_16_2 : (Cond.instanceMethod yX7_isEarth) ∈ wAll := r16_sub _ (List.mem_of_getElem? (i := 2) rfl)
theorem k_16_3 : (Cond.selects RX7 yX7_isEarth yX7_isEarth) ∈ wAll := r16_sub _ (List.mem_of_getElem? (i := 3) rfl)
theorem k_16_4 : (Cond.code yX7_isEarth cX7_isEarth 2 (some .boolean)) ∈ wAll := r16_sub _ (List.mem_of_getElem? (i := 4) rfl)
theorem k_16_5 : (Cond.methodLink RL 29 yX6_cell) ∈ wAll := r16_sub _ (List.mem_of_getElem? (i := 5) rfl)
theorem k_16_6 : (Cond.instanceMethod yX6_cell) ∈ wAll := r16_sub _ (List.mem_of_getElem? (i := 6) rfl)
theorem k_16_7 : (Cond.selects RX6 yX6_cell yX6_cell) ∈ wAll := r16_sub _ (List.mem_of_getElem? (i := 7) rfl)
theorem k_16_8 : (Cond.code yX6_cell cX6_cell 6 (some .int)) ∈ wAll := r16_sub _ (List.mem_of_getElem? (i := 8) rfl)
theorem k_16_9 : (Cond.fieldLink RX6 113 "EarthBanks$Slice" "zones" "[I") ∈ wAll := r16_sub _ (List.mem_of_getElem? (i := 9) rfl)
theorem k_16_10 : (Cond.fieldLink RX6 116 "EarthBanks$Slice" "heads" "[I") ∈ wAll := r16_sub _ (List.mem_of_getElem? (i := 10) rfl)
theorem k_16_11 : (Cond.fieldLink RX6 123 "EarthBanks$Slice" "gone" "[I") ∈ wAll := r16_sub _ (List.mem_of_getElem? (i := 11) rfl)
theorem k_16_12 : (Cond.methodLink RX6 101 yX6_isCell) ∈ wAll := r16_sub _ (List.mem_of_getElem? (i := 12) rfl)
theorem k_16_13 : (Cond.static yX6_isCell) ∈ wAll := r16_sub _ (List.mem_of_getElem? (i := 13) rfl)
theorem k_16_14 : (Cond.code yX6_isCell cX6_isCell 2 (some .boolean)) ∈ wAll := r16_sub _ (List.mem_of_getElem? (i := 14) rfl)
theorem k_16_15 : (Cond.methodLink RX6 105 yX6_placeOf) ∈ wAll := r16_sub _ (List.mem_of_getElem? (i := 15) rfl)
theorem k_16_16 : (Cond.methodLink RX6 109 yX2_isAir) ∈ wAll := r16_sub _ (List.mem_of_getElem? (i := 16) rfl)
theorem k_16_17 : (Cond.methodLink RX6 119 yX2_pushAt) ∈ wAll := r16_sub _ (List.mem_of_getElem? (i := 17) rfl)
theorem k_16_18 : (Cond.instanceMethod yX2_pushAt) ∈ wAll := r16_sub _ (List.mem_of_getElem? (i := 18) rfl)
theorem k_16_19 : (Cond.selects RX2 yX2_pushAt yX2_pushAt) ∈ wAll := r16_sub _ (List.mem_of_getElem? (i := 19) rfl)
theorem k_16_20 : (Cond.code yX2_pushAt cX2_pushAt 2 (some .int)) ∈ wAll := r16_sub _ (List.mem_of_getElem? (i := 20) rfl)
theorem k_16_21 : (Cond.methodLink RX2 59 Lib.Math.max.name) ∈ wAll := r16_sub _ (List.mem_of_getElem? (i := 21) rfl)
theorem k_16_22 : (Cond.static Lib.Math.max.name) ∈ wAll := r16_sub _ (List.mem_of_getElem? (i := 22) rfl)
theorem k_16_23 : (Cond.code Lib.Math.max.name Lib.Math.max.code 2 (some .int)) ∈ wAll := r16_sub _ (List.mem_of_getElem? (i := 23) rfl)
theorem r17_sub : ∀ w ∈ wsL_law_r17, w ∈ wAll := fun _ h => List.mem_append_left _ (List.mem_append_left _ (List.mem_append_left _ (List.mem_append_left _ (List.mem_append_left _ (List.mem_append_left _ (List.mem_append_left _ (List.mem_append_left _ (List.mem_append_left _ (List.mem_append_right _ (List.mem_append_right _ (List.mem_append_right _ (List.mem_append_right _ (List.mem_append_right _ (List.mem_append_right _ (List.mem_append_right _ (List.mem_append_right _ (List.mem_append_right _ (List.mem_append_right _ (List.mem_append_right _ (List.mem_append_right _ (List.mem_append_right _ (List.mem_append_right _ (List.mem_append_right _ (List.mem_append_right _ (List.mem_append_left _ h)))))))))))))))))))))))))
theorem k_17_0 : (Cond.methodLink RL 33 yX7_cell) ∈ wAll := r17_sub _ (List.mem_of_getElem? (i := 0) rfl)
theorem k_17_1 : (Cond.instanceMethod yX7_cell) ∈ wAll := r17_sub _ (List.mem_of_getElem? (i := 1) rfl)
theorem k_17_2 : (Cond.selects RX7 yX7_cell yX7_cell) ∈ wAll := r17_sub _ (List.mem_of_getElem? (i := 2) rfl)
theorem k_17_3 : (Cond.code yX7_cell cX7_cell 5 (some .int)) ∈ wAll := r17_sub _ (List.mem_of_getElem? (i := 3) rfl)
theorem k_17_4 : (Cond.methodLink RX7 144 yX7_isCell) ∈ wAll := r17_sub _ (List.mem_of_getElem? (i := 4) rfl)
theorem k_17_5 : (Cond.static yX7_isCell) ∈ wAll := r17_sub _ (List.mem_of_getElem? (i := 5) rfl)
theorem k_17_6 : (Cond.code yX7_isCell cX7_isCell 2 (some .boolean)) ∈ wAll := r17_sub _ (List.mem_of_getElem? (i := 6) rfl)
theorem k_17_7 : (Cond.methodLink RX7 86 yX7_pushOf) ∈ wAll := r17_sub _ (List.mem_of_getElem? (i := 7) rfl)
theorem k_17_8 : (Cond.instanceMethod yX7_pushOf) ∈ wAll := r17_sub _ (List.mem_of_getElem? (i := 8) rfl)
theorem k_17_9 : (Cond.selects RX7 yX7_pushOf yX7_pushOf) ∈ wAll := r17_sub _ (List.mem_of_getElem? (i := 9) rfl)
theorem k_17_10 : (Cond.code yX7_pushOf cX7_pushOf 3 (some .int)) ∈ wAll := r17_sub _ (List.mem_of_getElem? (i := 10) rfl)
theorem k_17_11 : (Cond.methodLink RL 34 yX6_zone) ∈ wAll := r17_sub _ (List.mem_of_getElem? (i := 11) rfl)
theorem k_17_12 : (Cond.instanceMethod yX6_zone) ∈ wAll := r17_sub _ (List.mem_of_getElem? (i := 12) rfl)
theorem k_17_13 : (Cond.selects RX6 yX6_zone yX6_zone) ∈ wAll := r17_sub _ (List.mem_of_getElem? (i := 13) rfl)
theorem k_17_14 : (Cond.code yX6_zone cX6_zone 6 (some .int)) ∈ wAll := r17_sub _ (List.mem_of_getElem? (i := 14) rfl)
theorem k_17_15 : (Cond.fieldLink RX6 132 "EarthBanks$Slice" "leads" "[I") ∈ wAll := r17_sub _ (List.mem_of_getElem? (i := 15) rfl)
theorem k_17_16 : (Cond.fieldLink RX6 135 "EarthBanks$Slice" "holds" "[I") ∈ wAll := r17_sub _ (List.mem_of_getElem? (i := 16) rfl)
theorem k_17_17 : (Cond.fieldLink RX6 138 "EarthBanks$Slice" "grains" "[I") ∈ wAll := r17_sub _ (List.mem_of_getElem? (i := 17) rfl)
theorem k_17_18 : (Cond.methodLink RX6 126 yX6_isZone) ∈ wAll := r17_sub _ (List.mem_of_getElem? (i := 18) rfl)
theorem k_17_19 : (Cond.methodLink RX6 129 yX6_isTrait) ∈ wAll := r17_sub _ (List.mem_of_getElem? (i := 19) rfl)
theorem k_17_20 : (Cond.static yX6_isTrait) ∈ wAll := r17_sub _ (List.mem_of_getElem? (i := 20) rfl)
theorem k_17_21 : (Cond.code yX6_isTrait cX6_isTrait 1 (some .boolean)) ∈ wAll := r17_sub _ (List.mem_of_getElem? (i := 21) rfl)
theorem k_17_22 : (Cond.methodLink RL 37 yX7_zone) ∈ wAll := r17_sub _ (List.mem_of_getElem? (i := 22) rfl)
theorem k_17_23 : (Cond.instanceMethod yX7_zone) ∈ wAll := r17_sub _ (List.mem_of_getElem? (i := 23) rfl)
theorem r18_sub : ∀ w ∈ wsL_law_r18, w ∈ wAll := fun _ h => List.mem_append_left _ (List.mem_append_left _ (List.mem_append_left _ (List.mem_append_left _ (List.mem_append_left _ (List.mem_append_left _ (List.mem_append_left _ (List.mem_append_left _ (List.mem_append_left _ (List.mem_append_right _ (List.mem_append_right _ (List.mem_append_right _ (List.mem_append_right _ (List.mem_append_right _ (List.mem_append_right _ (List.mem_append_right _ (List.mem_append_right _ (List.mem_append_right _ (List.mem_append_right _ (List.mem_append_right _ (List.mem_append_right _ (List.mem_append_right _ (List.mem_append_right _ (List.mem_append_right _ (List.mem_append_right _ (List.mem_append_right _ (List.mem_append_left _ h))))))))))))))))))))))))))
theorem k_18_0 : (Cond.selects RX7 yX7_zone yX7_zone) ∈ wAll := r18_sub _ (List.mem_of_getElem? (i := 0) rfl)
theorem k_18_1 : (Cond.code yX7_zone cX7_zone 6 (some .int)) ∈ wAll := r18_sub _ (List.mem_of_getElem? (i := 1) rfl)
theorem k_18_2 : (Cond.methodLink RL 38 yX6_load) ∈ wAll := r18_sub _ (List.mem_of_getElem? (i := 2) rfl)
theorem k_18_3 : (Cond.instanceMethod yX6_load) ∈ wAll := r18_sub _ (List.mem_of_getElem? (i := 3) rfl)
theorem k_18_4 : (Cond.selects RX6 yX6_load yX6_load) ∈ wAll := r18_sub _ (List.mem_of_getElem? (i := 4) rfl)
theorem k_18_5 : (Cond.code yX6_load cX6_load 5 (some .int)) ∈ wAll := r18_sub _ (List.mem_of_getElem? (i := 5) rfl)
theorem k_18_6 : (Cond.methodLink RX6 141 yX6_loadOfPart) ∈ wAll := r18_sub _ (List.mem_of_getElem? (i := 6) rfl)
theorem k_18_7 : (Cond.instanceMethod yX6_loadOfPart) ∈ wAll := r18_sub _ (List.mem_of_getElem? (i := 7) rfl)
theorem k_18_8 : (Cond.selects RX6 yX6_loadOfPart yX6_loadOfPart) ∈ wAll := r18_sub _ (List.mem_of_getElem? (i := 8) rfl)
theorem k_18_9 : (Cond.code yX6_loadOfPart cX6_loadOfPart 2 (some .int)) ∈ wAll := r18_sub _ (List.mem_of_getElem? (i := 9) rfl)
theorem k_18_10 : (Cond.methodLink RX6 144 yX6_loadOfCell) ∈ wAll := r18_sub _ (List.mem_of_getElem? (i := 10) rfl)
theorem k_18_11 : (Cond.instanceMethod yX6_loadOfCell) ∈ wAll := r18_sub _ (List.mem_of_getElem? (i := 11) rfl)
theorem k_18_12 : (Cond.selects RX6 yX6_loadOfCell yX6_loadOfCell) ∈ wAll := r18_sub _ (List.mem_of_getElem? (i := 12) rfl)
theorem k_18_13 : (Cond.code yX6_loadOfCell cX6_loadOfCell 2 (some .int)) ∈ wAll := r18_sub _ (List.mem_of_getElem? (i := 13) rfl)
theorem k_18_14 : (Cond.constantLong RX6 156 (10)) ∈ wAll := r18_sub _ (List.mem_of_getElem? (i := 14) rfl)
theorem k_18_15 : (Cond.methodLink RX6 147 yX6_loadOfDrained) ∈ wAll := r18_sub _ (List.mem_of_getElem? (i := 15) rfl)
theorem k_18_16 : (Cond.instanceMethod yX6_loadOfDrained) ∈ wAll := r18_sub _ (List.mem_of_getElem? (i := 16) rfl)
theorem k_18_17 : (Cond.selects RX6 yX6_loadOfDrained yX6_loadOfDrained) ∈ wAll := r18_sub _ (List.mem_of_getElem? (i := 17) rfl)
theorem k_18_18 : (Cond.code yX6_loadOfDrained cX6_loadOfDrained 3 (some .int)) ∈ wAll := r18_sub _ (List.mem_of_getElem? (i := 18) rfl)
theorem k_18_19 : (Cond.constantLong RX6 158 (100)) ∈ wAll := r18_sub _ (List.mem_of_getElem? (i := 19) rfl)
theorem k_18_20 : (Cond.methodLink RX6 150 yX6_loadOfCarried) ∈ wAll := r18_sub _ (List.mem_of_getElem? (i := 20) rfl)
theorem k_18_21 : (Cond.instanceMethod yX6_loadOfCarried) ∈ wAll := r18_sub _ (List.mem_of_getElem? (i := 21) rfl)
theorem k_18_22 : (Cond.selects RX6 yX6_loadOfCarried yX6_loadOfCarried) ∈ wAll := r18_sub _ (List.mem_of_getElem? (i := 22) rfl)
theorem k_18_23 : (Cond.code yX6_loadOfCarried cX6_loadOfCarried 2 (some .int)) ∈ wAll := r18_sub _ (List.mem_of_getElem? (i := 23) rfl)
theorem r19_sub : ∀ w ∈ wsL_law_r19, w ∈ wAll := fun _ h => List.mem_append_left _ (List.mem_append_left _ (List.mem_append_left _ (List.mem_append_left _ (List.mem_append_left _ (List.mem_append_left _ (List.mem_append_left _ (List.mem_append_left _ (List.mem_append_left _ (List.mem_append_right _ (List.mem_append_right _ (List.mem_append_right _ (List.mem_append_right _ (List.mem_append_right _ (List.mem_append_right _ (List.mem_append_right _ (List.mem_append_right _ (List.mem_append_right _ (List.mem_append_right _ (List.mem_append_right _ (List.mem_append_right _ (List.mem_append_right _ (List.mem_append_right _ (List.mem_append_right _ (List.mem_append_right _ (List.mem_append_right _ (List.mem_append_right _ (List.mem_append_left _ h)))))))))))))))))))))))))))
theorem k_19_0 : (Cond.constantLong RX6 160 (1000)) ∈ wAll := r19_sub _ (List.mem_of_getElem? (i := 0) rfl)
theorem k_19_1 : (Cond.methodLink RX6 153 yX6_loadOfCrack) ∈ wAll := r19_sub _ (List.mem_of_getElem? (i := 1) rfl)
theorem k_19_2 : (Cond.instanceMethod yX6_loadOfCrack) ∈ wAll := r19_sub _ (List.mem_of_getElem? (i := 2) rfl)
theorem k_19_3 : (Cond.selects RX6 yX6_loadOfCrack yX6_loadOfCrack) ∈ wAll := r19_sub _ (List.mem_of_getElem? (i := 3) rfl)
theorem k_19_4 : (Cond.code yX6_loadOfCrack cX6_loadOfCrack 2 (some .int)) ∈ wAll := r19_sub _ (List.mem_of_getElem? (i := 4) rfl)
theorem k_19_5 : (Cond.constantLong RX6 162 (10000)) ∈ wAll := r19_sub _ (List.mem_of_getElem? (i := 5) rfl)
theorem k_19_6 : (Cond.methodLink RX6 164 yX2_holdAt) ∈ wAll := r19_sub _ (List.mem_of_getElem? (i := 6) rfl)
theorem k_19_7 : (Cond.instanceMethod yX2_holdAt) ∈ wAll := r19_sub _ (List.mem_of_getElem? (i := 7) rfl)
theorem k_19_8 : (Cond.selects RX2 yX2_holdAt yX2_holdAt) ∈ wAll := r19_sub _ (List.mem_of_getElem? (i := 8) rfl)
theorem k_19_9 : (Cond.code yX2_holdAt cX2_holdAt 2 (some .int)) ∈ wAll := r19_sub _ (List.mem_of_getElem? (i := 9) rfl)
theorem k_19_10 : (Cond.methodLink RL 41 yX7_load) ∈ wAll := r19_sub _ (List.mem_of_getElem? (i := 10) rfl)
theorem k_19_11 : (Cond.instanceMethod yX7_load) ∈ wAll := r19_sub _ (List.mem_of_getElem? (i := 11) rfl)
theorem k_19_12 : (Cond.selects RX7 yX7_load yX7_load) ∈ wAll := r19_sub _ (List.mem_of_getElem? (i := 12) rfl)
theorem k_19_13 : (Cond.code yX7_load cX7_load 7 (some .int)) ∈ wAll := r19_sub _ (List.mem_of_getElem? (i := 13) rfl)
theorem k_19_14 : (Cond.fieldLink RX7 148 "EarthBanksModel" "trace" "J") ∈ wAll := r19_sub _ (List.mem_of_getElem? (i := 14) rfl)
theorem k_19_15 : (Cond.constantLong RX7 152 (11)) ∈ wAll := r19_sub _ (List.mem_of_getElem? (i := 15) rfl)
theorem k_19_16 : (Cond.constantLong RX7 154 (111)) ∈ wAll := r19_sub _ (List.mem_of_getElem? (i := 16) rfl)
theorem k_19_17 : (Cond.constantLong RX7 156 (1011)) ∈ wAll := r19_sub _ (List.mem_of_getElem? (i := 17) rfl)
theorem k_19_18 : (Cond.constantLong RX7 158 (10001)) ∈ wAll := r19_sub _ (List.mem_of_getElem? (i := 18) rfl)
theorem k_19_19 : (Cond.methodLink RX7 160 yX7_holdOf) ∈ wAll := r19_sub _ (List.mem_of_getElem? (i := 19) rfl)
theorem k_19_20 : (Cond.instanceMethod yX7_holdOf) ∈ wAll := r19_sub _ (List.mem_of_getElem? (i := 20) rfl)
theorem k_19_21 : (Cond.selects RX7 yX7_holdOf yX7_holdOf) ∈ wAll := r19_sub _ (List.mem_of_getElem? (i := 21) rfl)
theorem k_19_22 : (Cond.code yX7_holdOf cX7_holdOf 2 (some .int)) ∈ wAll := r19_sub _ (List.mem_of_getElem? (i := 22) rfl)
theorem k_19_23 : (Cond.methodLink RL 42 yX6_lake) ∈ wAll := r19_sub _ (List.mem_of_getElem? (i := 23) rfl)
theorem r20_sub : ∀ w ∈ wsL_law_r20, w ∈ wAll := fun _ h => List.mem_append_left _ (List.mem_append_left _ (List.mem_append_left _ (List.mem_append_left _ (List.mem_append_left _ (List.mem_append_left _ (List.mem_append_left _ (List.mem_append_left _ (List.mem_append_left _ (List.mem_append_right _ (List.mem_append_right _ (List.mem_append_right _ (List.mem_append_right _ (List.mem_append_right _ (List.mem_append_right _ (List.mem_append_right _ (List.mem_append_right _ (List.mem_append_right _ (List.mem_append_right _ (List.mem_append_right _ (List.mem_append_right _ (List.mem_append_right _ (List.mem_append_right _ (List.mem_append_right _ (List.mem_append_right _ (List.mem_append_right _ (List.mem_append_right _ (List.mem_append_right _ (List.mem_append_left _ h))))))))))))))))))))))))))))
theorem k_20_0 : (Cond.instanceMethod yX6_lake) ∈ wAll := r20_sub _ (List.mem_of_getElem? (i := 0) rfl)
theorem k_20_1 : (Cond.selects RX6 yX6_lake yX6_lake) ∈ wAll := r20_sub _ (List.mem_of_getElem? (i := 1) rfl)
theorem k_20_2 : (Cond.code yX6_lake cX6_lake 3 (some .int)) ∈ wAll := r20_sub _ (List.mem_of_getElem? (i := 2) rfl)
theorem k_20_3 : (Cond.methodLink RL 46 yX7_lake) ∈ wAll := r20_sub _ (List.mem_of_getElem? (i := 3) rfl)
theorem k_20_4 : (Cond.instanceMethod yX7_lake) ∈ wAll := r20_sub _ (List.mem_of_getElem? (i := 4) rfl)
theorem k_20_5 : (Cond.selects RX7 yX7_lake yX7_lake) ∈ wAll := r20_sub _ (List.mem_of_getElem? (i := 5) rfl)
theorem k_20_6 : (Cond.code yX7_lake cX7_lake 3 (some .int)) ∈ wAll := r20_sub _ (List.mem_of_getElem? (i := 6) rfl)
theorem k_20_7 : (Cond.methodLink RL 47 yX6_sweep) ∈ wAll := r20_sub _ (List.mem_of_getElem? (i := 7) rfl)
theorem k_20_8 : (Cond.instanceMethod yX6_sweep) ∈ wAll := r20_sub _ (List.mem_of_getElem? (i := 8) rfl)
theorem k_20_9 : (Cond.selects RX6 yX6_sweep yX6_sweep) ∈ wAll := r20_sub _ (List.mem_of_getElem? (i := 9) rfl)
theorem k_20_10 : (Cond.code yX6_sweep cX6_sweep 2 (some .int)) ∈ wAll := r20_sub _ (List.mem_of_getElem? (i := 10) rfl)
theorem k_20_11 : (Cond.methodLink RX6 167 yX2_runSweeps) ∈ wAll := r20_sub _ (List.mem_of_getElem? (i := 11) rfl)
theorem k_20_12 : (Cond.instanceMethod yX2_runSweeps) ∈ wAll := r20_sub _ (List.mem_of_getElem? (i := 12) rfl)
theorem k_20_13 : (Cond.selects RX2 yX2_runSweeps yX2_runSweeps) ∈ wAll := r20_sub _ (List.mem_of_getElem? (i := 13) rfl)
theorem k_20_14 : (Cond.code yX2_runSweeps cX2_runSweeps 3 none) ∈ wAll := r20_sub _ (List.mem_of_getElem? (i := 14) rfl)
theorem k_20_15 : (Cond.methodLink RX2 83 yX2_notePassing) ∈ wAll := r20_sub _ (List.mem_of_getElem? (i := 15) rfl)
theorem k_20_16 : (Cond.instanceMethod yX2_notePassing) ∈ wAll := r20_sub _ (List.mem_of_getElem? (i := 16) rfl)
theorem k_20_17 : (Cond.selects RX2 yX2_notePassing yX2_notePassing) ∈ wAll := r20_sub _ (List.mem_of_getElem? (i := 17) rfl)
theorem k_20_18 : (Cond.code yX2_notePassing cX2_notePassing 2 none) ∈ wAll := r20_sub _ (List.mem_of_getElem? (i := 18) rfl)
theorem k_20_19 : (Cond.methodLink RX2 86 yX2_fixEnds) ∈ wAll := r20_sub _ (List.mem_of_getElem? (i := 19) rfl)
theorem k_20_20 : (Cond.instanceMethod yX2_fixEnds) ∈ wAll := r20_sub _ (List.mem_of_getElem? (i := 20) rfl)
theorem k_20_21 : (Cond.selects RX2 yX2_fixEnds yX2_fixEnds) ∈ wAll := r20_sub _ (List.mem_of_getElem? (i := 21) rfl)
theorem k_20_22 : (Cond.code yX2_fixEnds cX2_fixEnds 2 none) ∈ wAll := r20_sub _ (List.mem_of_getElem? (i := 22) rfl)
theorem k_20_23 : (Cond.methodLink RX2 92 yX2_isAtLake) ∈ wAll := r20_sub _ (List.mem_of_getElem? (i := 23) rfl)
theorem r21_sub : ∀ w ∈ wsL_law_r21, w ∈ wAll := fun _ h => List.mem_append_left _ (List.mem_append_left _ (List.mem_append_left _ (List.mem_append_left _ (List.mem_append_left _ (List.mem_append_left _ (List.mem_append_left _ (List.mem_append_left _ (List.mem_append_left _ (List.mem_append_right _ (List.mem_append_right _ (List.mem_append_right _ (List.mem_append_right _ (List.mem_append_right _ (List.mem_append_right _ (List.mem_append_right _ (List.mem_append_right _ (List.mem_append_right _ (List.mem_append_right _ (List.mem_append_right _ (List.mem_append_right _ (List.mem_append_right _ (List.mem_append_right _ (List.mem_append_right _ (List.mem_append_right _ (List.mem_append_right _ (List.mem_append_right _ (List.mem_append_right _ (List.mem_append_right _ (List.mem_append_left _ h)))))))))))))))))))))))))))))
theorem k_21_0 : (Cond.instanceMethod yX2_isAtLake) ∈ wAll := r21_sub _ (List.mem_of_getElem? (i := 0) rfl)
theorem k_21_1 : (Cond.selects RX2 yX2_isAtLake yX2_isAtLake) ∈ wAll := r21_sub _ (List.mem_of_getElem? (i := 1) rfl)
theorem k_21_2 : (Cond.code yX2_isAtLake cX2_isAtLake 2 (some .boolean)) ∈ wAll := r21_sub _ (List.mem_of_getElem? (i := 2) rfl)
theorem k_21_3 : (Cond.methodLink RX2 95 yX2_isAtFoot) ∈ wAll := r21_sub _ (List.mem_of_getElem? (i := 3) rfl)
theorem k_21_4 : (Cond.instanceMethod yX2_isAtFoot) ∈ wAll := r21_sub _ (List.mem_of_getElem? (i := 4) rfl)
theorem k_21_5 : (Cond.selects RX2 yX2_isAtFoot yX2_isAtFoot) ∈ wAll := r21_sub _ (List.mem_of_getElem? (i := 5) rfl)
theorem k_21_6 : (Cond.code yX2_isAtFoot cX2_isAtFoot 2 (some .boolean)) ∈ wAll := r21_sub _ (List.mem_of_getElem? (i := 6) rfl)
theorem k_21_7 : (Cond.methodLink RX2 89 yX2_levelOthers) ∈ wAll := r21_sub _ (List.mem_of_getElem? (i := 7) rfl)
theorem k_21_8 : (Cond.instanceMethod yX2_levelOthers) ∈ wAll := r21_sub _ (List.mem_of_getElem? (i := 8) rfl)
theorem k_21_9 : (Cond.selects RX2 yX2_levelOthers yX2_levelOthers) ∈ wAll := r21_sub _ (List.mem_of_getElem? (i := 9) rfl)
theorem k_21_10 : (Cond.code yX2_levelOthers cX2_levelOthers 3 none) ∈ wAll := r21_sub _ (List.mem_of_getElem? (i := 10) rfl)
theorem k_21_11 : (Cond.methodLink RX2 98 yX2_leadsAround) ∈ wAll := r21_sub _ (List.mem_of_getElem? (i := 11) rfl)
theorem k_21_12 : (Cond.instanceMethod yX2_leadsAround) ∈ wAll := r21_sub _ (List.mem_of_getElem? (i := 12) rfl)
theorem k_21_13 : (Cond.selects RX2 yX2_leadsAround yX2_leadsAround) ∈ wAll := r21_sub _ (List.mem_of_getElem? (i := 13) rfl)
theorem k_21_14 : (Cond.code yX2_leadsAround cX2_leadsAround 5 (some .int)) ∈ wAll := r21_sub _ (List.mem_of_getElem? (i := 14) rfl)
theorem k_21_15 : (Cond.methodLink RX2 110 Lib.Math.min.name) ∈ wAll := r21_sub _ (List.mem_of_getElem? (i := 15) rfl)
theorem k_21_16 : (Cond.methodLink RX2 107 yX2_neighbour) ∈ wAll := r21_sub _ (List.mem_of_getElem? (i := 16) rfl)
theorem k_21_17 : (Cond.static yX2_neighbour) ∈ wAll := r21_sub _ (List.mem_of_getElem? (i := 17) rfl)
theorem k_21_18 : (Cond.code yX2_neighbour cX2_neighbour 4 (some .int)) ∈ wAll := r21_sub _ (List.mem_of_getElem? (i := 18) rfl)
theorem k_21_19 : (Cond.methodLink RX2 101 yX2_flowInto) ∈ wAll := r21_sub _ (List.mem_of_getElem? (i := 19) rfl)
theorem k_21_20 : (Cond.instanceMethod yX2_flowInto) ∈ wAll := r21_sub _ (List.mem_of_getElem? (i := 20) rfl)
theorem k_21_21 : (Cond.selects RX2 yX2_flowInto yX2_flowInto) ∈ wAll := r21_sub _ (List.mem_of_getElem? (i := 21) rfl)
theorem k_21_22 : (Cond.code yX2_flowInto cX2_flowInto 5 (some .int)) ∈ wAll := r21_sub _ (List.mem_of_getElem? (i := 22) rfl)
theorem k_21_23 : (Cond.methodLink RX6 171 yX2_wetCells) ∈ wAll := r21_sub _ (List.mem_of_getElem? (i := 23) rfl)
theorem r22_sub : ∀ w ∈ wsL_law_r22, w ∈ wAll := fun _ h => List.mem_append_left _ (List.mem_append_left _ (List.mem_append_left _ (List.mem_append_left _ (List.mem_append_left _ (List.mem_append_left _ (List.mem_append_left _ (List.mem_append_left _ (List.mem_append_left _ (List.mem_append_right _ (List.mem_append_right _ (List.mem_append_right _ (List.mem_append_right _ (List.mem_append_right _ (List.mem_append_right _ (List.mem_append_right _ (List.mem_append_right _ (List.mem_append_right _ (List.mem_append_right _ (List.mem_append_right _ (List.mem_append_right _ (List.mem_append_right _ (List.mem_append_right _ (List.mem_append_right _ (List.mem_append_right _ (List.mem_append_right _ (List.mem_append_right _ (List.mem_append_right _ (List.mem_append_right _ (List.mem_append_right _ (List.mem_append_left _ h))))))))))))))))))))))))))))))
theorem k_22_0 : (Cond.instanceMethod yX2_wetCells) ∈ wAll := r22_sub _ (List.mem_of_getElem? (i := 0) rfl)
theorem k_22_1 : (Cond.selects RX2 yX2_wetCells yX2_wetCells) ∈ wAll := r22_sub _ (List.mem_of_getElem? (i := 1) rfl)
theorem k_22_2 : (Cond.code yX2_wetCells cX2_wetCells 3 (some .int)) ∈ wAll := r22_sub _ (List.mem_of_getElem? (i := 2) rfl)
theorem k_22_3 : (Cond.methodLink RX2 72 yX2_isWet) ∈ wAll := r22_sub _ (List.mem_of_getElem? (i := 3) rfl)
theorem k_22_4 : (Cond.instanceMethod yX2_isWet) ∈ wAll := r22_sub _ (List.mem_of_getElem? (i := 4) rfl)
theorem k_22_5 : (Cond.selects RX2 yX2_isWet yX2_isWet) ∈ wAll := r22_sub _ (List.mem_of_getElem? (i := 5) rfl)
theorem k_22_6 : (Cond.code yX2_isWet cX2_isWet 2 (some .boolean)) ∈ wAll := r22_sub _ (List.mem_of_getElem? (i := 6) rfl)
theorem k_22_7 : (Cond.methodLink RX2 68 yX2_pushAt) ∈ wAll := r22_sub _ (List.mem_of_getElem? (i := 7) rfl)
theorem k_22_8 : (Cond.methodLink RL 50 yX7_sweep) ∈ wAll := r22_sub _ (List.mem_of_getElem? (i := 8) rfl)
theorem k_22_9 : (Cond.instanceMethod yX7_sweep) ∈ wAll := r22_sub _ (List.mem_of_getElem? (i := 9) rfl)
theorem k_22_10 : (Cond.selects RX7 yX7_sweep yX7_sweep) ∈ wAll := r22_sub _ (List.mem_of_getElem? (i := 10) rfl)
theorem k_22_11 : (Cond.code yX7_sweep cX7_sweep 3 (some .int)) ∈ wAll := r22_sub _ (List.mem_of_getElem? (i := 11) rfl)
theorem k_22_12 : (Cond.methodLink RX7 176 yX7_sweeps) ∈ wAll := r22_sub _ (List.mem_of_getElem? (i := 12) rfl)
theorem k_22_13 : (Cond.instanceMethod yX7_sweeps) ∈ wAll := r22_sub _ (List.mem_of_getElem? (i := 13) rfl)
theorem k_22_14 : (Cond.selects RX7 yX7_sweeps yX7_sweeps) ∈ wAll := r22_sub _ (List.mem_of_getElem? (i := 14) rfl)
theorem k_22_15 : (Cond.code yX7_sweeps cX7_sweeps 4 none) ∈ wAll := r22_sub _ (List.mem_of_getElem? (i := 15) rfl)
theorem k_22_16 : (Cond.methodLink RX7 169 yX7_flowing) ∈ wAll := r22_sub _ (List.mem_of_getElem? (i := 16) rfl)
theorem k_22_17 : (Cond.instanceMethod yX7_flowing) ∈ wAll := r22_sub _ (List.mem_of_getElem? (i := 17) rfl)
theorem k_22_18 : (Cond.selects RX7 yX7_flowing yX7_flowing) ∈ wAll := r22_sub _ (List.mem_of_getElem? (i := 18) rfl)
theorem k_22_19 : (Cond.code yX7_flowing cX7_flowing 6 (some .int)) ∈ wAll := r22_sub _ (List.mem_of_getElem? (i := 19) rfl)
theorem k_22_20 : (Cond.methodLink RX7 163 yX7_beside) ∈ wAll := r22_sub _ (List.mem_of_getElem? (i := 20) rfl)
theorem k_22_21 : (Cond.static yX7_beside) ∈ wAll := r22_sub _ (List.mem_of_getElem? (i := 21) rfl)
theorem k_22_22 : (Cond.code yX7_beside cX7_beside 4 (some .int)) ∈ wAll := r22_sub _ (List.mem_of_getElem? (i := 22) rfl)
theorem k_22_23 : (Cond.methodLink RX7 166 yX7_lesser) ∈ wAll := r22_sub _ (List.mem_of_getElem? (i := 23) rfl)
theorem r23_sub : ∀ w ∈ wsL_law_r23, w ∈ wAll := fun _ h => List.mem_append_left _ (List.mem_append_left _ (List.mem_append_left _ (List.mem_append_left _ (List.mem_append_left _ (List.mem_append_left _ (List.mem_append_left _ (List.mem_append_left _ (List.mem_append_left _ (List.mem_append_right _ (List.mem_append_right _ (List.mem_append_right _ (List.mem_append_right _ (List.mem_append_right _ (List.mem_append_right _ (List.mem_append_right _ (List.mem_append_right _ (List.mem_append_right _ (List.mem_append_right _ (List.mem_append_right _ (List.mem_append_right _ (List.mem_append_right _ (List.mem_append_right _ (List.mem_append_right _ (List.mem_append_right _ (List.mem_append_right _ (List.mem_append_right _ (List.mem_append_right _ (List.mem_append_right _ (List.mem_append_right _ (List.mem_append_right _ (List.mem_append_left _ h)))))))))))))))))))))))))))))))
theorem k_23_0 : (Cond.instanceMethod yX7_lesser) ∈ wAll := r23_sub _ (List.mem_of_getElem? (i := 0) rfl)
theorem k_23_1 : (Cond.selects RX7 yX7_lesser yX7_lesser) ∈ wAll := r23_sub _ (List.mem_of_getElem? (i := 1) rfl)
theorem k_23_2 : (Cond.code yX7_lesser cX7_lesser 5 (some .int)) ∈ wAll := r23_sub _ (List.mem_of_getElem? (i := 2) rfl)
theorem k_23_3 : (Cond.methodLink RX7 179 yX7_wet) ∈ wAll := r23_sub _ (List.mem_of_getElem? (i := 3) rfl)
theorem k_23_4 : (Cond.instanceMethod yX7_wet) ∈ wAll := r23_sub _ (List.mem_of_getElem? (i := 4) rfl)
theorem k_23_5 : (Cond.selects RX7 yX7_wet yX7_wet) ∈ wAll := r23_sub _ (List.mem_of_getElem? (i := 5) rfl)
theorem k_23_6 : (Cond.code yX7_wet cX7_wet 3 (some .int)) ∈ wAll := r23_sub _ (List.mem_of_getElem? (i := 6) rfl)
theorem k_23_7 : (Cond.methodLink RX7 173 yX7_isWet) ∈ wAll := r23_sub _ (List.mem_of_getElem? (i := 7) rfl)
theorem k_23_8 : (Cond.instanceMethod yX7_isWet) ∈ wAll := r23_sub _ (List.mem_of_getElem? (i := 8) rfl)
theorem k_23_9 : (Cond.selects RX7 yX7_isWet yX7_isWet) ∈ wAll := r23_sub _ (List.mem_of_getElem? (i := 9) rfl)
theorem k_23_10 : (Cond.code yX7_isWet cX7_isWet 2 (some .boolean)) ∈ wAll := r23_sub _ (List.mem_of_getElem? (i := 10) rfl)
theorem k_23_11 : (Cond.methodLink RL 51 yX6_seep) ∈ wAll := r23_sub _ (List.mem_of_getElem? (i := 11) rfl)
theorem k_23_12 : (Cond.instanceMethod yX6_seep) ∈ wAll := r23_sub _ (List.mem_of_getElem? (i := 12) rfl)
theorem k_23_13 : (Cond.selects RX6 yX6_seep yX6_seep) ∈ wAll := r23_sub _ (List.mem_of_getElem? (i := 13) rfl)
theorem k_23_14 : (Cond.code yX6_seep cX6_seep 1 (some .int)) ∈ wAll := r23_sub _ (List.mem_of_getElem? (i := 14) rfl)
theorem k_23_15 : (Cond.methodLink RX6 174 yX2_seepage) ∈ wAll := r23_sub _ (List.mem_of_getElem? (i := 15) rfl)
theorem k_23_16 : (Cond.instanceMethod yX2_seepage) ∈ wAll := r23_sub _ (List.mem_of_getElem? (i := 16) rfl)
theorem k_23_17 : (Cond.selects RX2 yX2_seepage yX2_seepage) ∈ wAll := r23_sub _ (List.mem_of_getElem? (i := 17) rfl)
theorem k_23_18 : (Cond.code yX2_seepage cX2_seepage 1 (some .int)) ∈ wAll := r23_sub _ (List.mem_of_getElem? (i := 18) rfl)
theorem k_23_19 : (Cond.methodLink RL 54 yX7_seep) ∈ wAll := r23_sub _ (List.mem_of_getElem? (i := 19) rfl)
theorem k_23_20 : (Cond.instanceMethod yX7_seep) ∈ wAll := r23_sub _ (List.mem_of_getElem? (i := 20) rfl)
theorem k_23_21 : (Cond.selects RX7 yX7_seep yX7_seep) ∈ wAll := r23_sub _ (List.mem_of_getElem? (i := 21) rfl)
theorem k_23_22 : (Cond.code yX7_seep cX7_seep 1 (some .int)) ∈ wAll := r23_sub _ (List.mem_of_getElem? (i := 22) rfl)
theorem k_23_23 : (Cond.methodLink RL 55 yX6_dry) ∈ wAll := r23_sub _ (List.mem_of_getElem? (i := 23) rfl)
theorem r24_sub : ∀ w ∈ wsL_law_r24, w ∈ wAll := fun _ h => List.mem_append_left _ (List.mem_append_left _ (List.mem_append_left _ (List.mem_append_left _ (List.mem_append_left _ (List.mem_append_left _ (List.mem_append_left _ (List.mem_append_left _ (List.mem_append_left _ (List.mem_append_right _ (List.mem_append_right _ (List.mem_append_right _ (List.mem_append_right _ (List.mem_append_right _ (List.mem_append_right _ (List.mem_append_right _ (List.mem_append_right _ (List.mem_append_right _ (List.mem_append_right _ (List.mem_append_right _ (List.mem_append_right _ (List.mem_append_right _ (List.mem_append_right _ (List.mem_append_right _ (List.mem_append_right _ (List.mem_append_right _ (List.mem_append_right _ (List.mem_append_right _ (List.mem_append_right _ (List.mem_append_right _ (List.mem_append_right _ (List.mem_append_right _ (List.mem_append_left _ h))))))))))))))))))))))))))))))))
theorem k_24_0 : (Cond.instanceMethod yX6_dry) ∈ wAll := r24_sub _ (List.mem_of_getElem? (i := 0) rfl)
theorem k_24_1 : (Cond.selects RX6 yX6_dry yX6_dry) ∈ wAll := r24_sub _ (List.mem_of_getElem? (i := 1) rfl)
theorem k_24_2 : (Cond.code yX6_dry cX6_dry 1 (some .int)) ∈ wAll := r24_sub _ (List.mem_of_getElem? (i := 2) rfl)
theorem k_24_3 : (Cond.methodLink RX6 177 yX2_dropHeads) ∈ wAll := r24_sub _ (List.mem_of_getElem? (i := 3) rfl)
theorem k_24_4 : (Cond.instanceMethod yX2_dropHeads) ∈ wAll := r24_sub _ (List.mem_of_getElem? (i := 4) rfl)
theorem k_24_5 : (Cond.selects RX2 yX2_dropHeads yX2_dropHeads) ∈ wAll := r24_sub _ (List.mem_of_getElem? (i := 5) rfl)
theorem k_24_6 : (Cond.code yX2_dropHeads cX2_dropHeads 3 (some .int)) ∈ wAll := r24_sub _ (List.mem_of_getElem? (i := 6) rfl)
theorem k_24_7 : (Cond.methodLink RL 58 yX7_dry) ∈ wAll := r24_sub _ (List.mem_of_getElem? (i := 7) rfl)
theorem k_24_8 : (Cond.instanceMethod yX7_dry) ∈ wAll := r24_sub _ (List.mem_of_getElem? (i := 8) rfl)
theorem k_24_9 : (Cond.selects RX7 yX7_dry yX7_dry) ∈ wAll := r24_sub _ (List.mem_of_getElem? (i := 9) rfl)
theorem k_24_10 : (Cond.code yX7_dry cX7_dry 1 (some .int)) ∈ wAll := r24_sub _ (List.mem_of_getElem? (i := 10) rfl)
theorem k_24_11 : (Cond.methodLink RX7 182 yX7_dries) ∈ wAll := r24_sub _ (List.mem_of_getElem? (i := 11) rfl)
theorem k_24_12 : (Cond.instanceMethod yX7_dries) ∈ wAll := r24_sub _ (List.mem_of_getElem? (i := 12) rfl)
theorem k_24_13 : (Cond.selects RX7 yX7_dries yX7_dries) ∈ wAll := r24_sub _ (List.mem_of_getElem? (i := 13) rfl)
theorem k_24_14 : (Cond.code yX7_dries cX7_dries 3 (some .int)) ∈ wAll := r24_sub _ (List.mem_of_getElem? (i := 14) rfl)
theorem k_24_15 : (Cond.methodLink RL 59 yX6_least) ∈ wAll := r24_sub _ (List.mem_of_getElem? (i := 15) rfl)
theorem k_24_16 : (Cond.instanceMethod yX6_least) ∈ wAll := r24_sub _ (List.mem_of_getElem? (i := 16) rfl)
theorem k_24_17 : (Cond.selects RX6 yX6_least yX6_least) ∈ wAll := r24_sub _ (List.mem_of_getElem? (i := 17) rfl)
theorem k_24_18 : (Cond.code yX6_least cX6_least 2 (some .int)) ∈ wAll := r24_sub _ (List.mem_of_getElem? (i := 18) rfl)
theorem k_24_19 : (Cond.fieldLink RX6 187 "EarthBanks$Slides" "found" "Z") ∈ wAll := r24_sub _ (List.mem_of_getElem? (i := 19) rfl)
theorem k_24_20 : (Cond.fieldLink RX6 191 "EarthBanks$Slides" "leastMargin" "I") ∈ wAll := r24_sub _ (List.mem_of_getElem? (i := 20) rfl)
theorem k_24_21 : (Cond.fieldLink RX6 194 "EarthBanks$Slides" "leastStart" "I") ∈ wAll := r24_sub _ (List.mem_of_getElem? (i := 21) rfl)
theorem k_24_22 : (Cond.fieldLink RX6 197 "EarthBanks$Slides" "leastHeights" "[I") ∈ wAll := r24_sub _ (List.mem_of_getElem? (i := 22) rfl)
theorem k_24_23 : (Cond.methodLink RX6 180 yX3_survey) ∈ wAll := r24_sub _ (List.mem_of_getElem? (i := 23) rfl)
theorem r25_sub : ∀ w ∈ wsL_law_r25, w ∈ wAll := fun _ h => List.mem_append_left _ (List.mem_append_left _ (List.mem_append_left _ (List.mem_append_left _ (List.mem_append_left _ (List.mem_append_left _ (List.mem_append_left _ (List.mem_append_left _ (List.mem_append_left _ (List.mem_append_right _ (List.mem_append_right _ (List.mem_append_right _ (List.mem_append_right _ (List.mem_append_right _ (List.mem_append_right _ (List.mem_append_right _ (List.mem_append_right _ (List.mem_append_right _ (List.mem_append_right _ (List.mem_append_right _ (List.mem_append_right _ (List.mem_append_right _ (List.mem_append_right _ (List.mem_append_right _ (List.mem_append_right _ (List.mem_append_right _ (List.mem_append_right _ (List.mem_append_right _ (List.mem_append_right _ (List.mem_append_right _ (List.mem_append_right _ (List.mem_append_right _ (List.mem_append_right _ (List.mem_append_left _ h)))))))))))))))))))))))))))))))))
theorem k_25_0 : (Cond.instanceMethod yX3_survey) ∈ wAll := r25_sub _ (List.mem_of_getElem? (i := 0) rfl)
theorem k_25_1 : (Cond.selects RX3 yX3_survey yX3_survey) ∈ wAll := r25_sub _ (List.mem_of_getElem? (i := 1) rfl)
theorem k_25_2 : (Cond.code yX3_survey cX3_survey 12 none) ∈ wAll := r25_sub _ (List.mem_of_getElem? (i := 2) rfl)
theorem k_25_3 : (Cond.methodLink RX3 47 yX5_moreHold) ∈ wAll := r25_sub _ (List.mem_of_getElem? (i := 3) rfl)
theorem k_25_4 : (Cond.instanceMethod yX5_moreHold) ∈ wAll := r25_sub _ (List.mem_of_getElem? (i := 4) rfl)
theorem k_25_5 : (Cond.selects RX5 yX5_moreHold yX5_moreHold) ∈ wAll := r25_sub _ (List.mem_of_getElem? (i := 5) rfl)
theorem k_25_6 : (Cond.code yX5_moreHold cX5_moreHold 5 (some .int)) ∈ wAll := r25_sub _ (List.mem_of_getElem? (i := 6) rfl)
theorem k_25_7 : (Cond.methodLink RX5 28 yX5_has) ∈ wAll := r25_sub _ (List.mem_of_getElem? (i := 7) rfl)
theorem k_25_8 : (Cond.static yX5_has) ∈ wAll := r25_sub _ (List.mem_of_getElem? (i := 8) rfl)
theorem k_25_9 : (Cond.code yX5_has cX5_has 2 (some .boolean)) ∈ wAll := r25_sub _ (List.mem_of_getElem? (i := 9) rfl)
theorem k_25_10 : (Cond.methodLink RX3 56 yX2_isWet) ∈ wAll := r25_sub _ (List.mem_of_getElem? (i := 10) rfl)
theorem k_25_11 : (Cond.methodLink RX3 62 yX5_isDrained) ∈ wAll := r25_sub _ (List.mem_of_getElem? (i := 11) rfl)
theorem k_25_12 : (Cond.instanceMethod yX5_isDrained) ∈ wAll := r25_sub _ (List.mem_of_getElem? (i := 12) rfl)
theorem k_25_13 : (Cond.selects RX5 yX5_isDrained yX5_isDrained) ∈ wAll := r25_sub _ (List.mem_of_getElem? (i := 13) rfl)
theorem k_25_14 : (Cond.code yX5_isDrained cX5_isDrained 4 (some .boolean)) ∈ wAll := r25_sub _ (List.mem_of_getElem? (i := 14) rfl)
theorem k_25_15 : (Cond.methodLink RX3 66 yX2_holdAt) ∈ wAll := r25_sub _ (List.mem_of_getElem? (i := 15) rfl)
theorem k_25_16 : (Cond.methodLink RX3 70 yX2_isEarth) ∈ wAll := r25_sub _ (List.mem_of_getElem? (i := 16) rfl)
theorem k_25_17 : (Cond.methodLink RX6 184 yX3_walkAll) ∈ wAll := r25_sub _ (List.mem_of_getElem? (i := 17) rfl)
theorem k_25_18 : (Cond.instanceMethod yX3_walkAll) ∈ wAll := r25_sub _ (List.mem_of_getElem? (i := 18) rfl)
theorem k_25_19 : (Cond.selects RX3 yX3_walkAll yX3_walkAll) ∈ wAll := r25_sub _ (List.mem_of_getElem? (i := 19) rfl)
theorem k_25_20 : (Cond.code yX3_walkAll cX3_walkAll 3 none) ∈ wAll := r25_sub _ (List.mem_of_getElem? (i := 20) rfl)
theorem k_25_21 : (Cond.methodLink RX3 73 yX3_walkFrom) ∈ wAll := r25_sub _ (List.mem_of_getElem? (i := 21) rfl)
theorem k_25_22 : (Cond.instanceMethod yX3_walkFrom) ∈ wAll := r25_sub _ (List.mem_of_getElem? (i := 22) rfl)
theorem k_25_23 : (Cond.selects RX3 yX3_walkFrom yX3_walkFrom) ∈ wAll := r25_sub _ (List.mem_of_getElem? (i := 23) rfl)
theorem r26_sub : ∀ w ∈ wsL_law_r26, w ∈ wAll := fun _ h => List.mem_append_left _ (List.mem_append_left _ (List.mem_append_left _ (List.mem_append_left _ (List.mem_append_left _ (List.mem_append_left _ (List.mem_append_left _ (List.mem_append_left _ (List.mem_append_left _ (List.mem_append_right _ (List.mem_append_right _ (List.mem_append_right _ (List.mem_append_right _ (List.mem_append_right _ (List.mem_append_right _ (List.mem_append_right _ (List.mem_append_right _ (List.mem_append_right _ (List.mem_append_right _ (List.mem_append_right _ (List.mem_append_right _ (List.mem_append_right _ (List.mem_append_right _ (List.mem_append_right _ (List.mem_append_right _ (List.mem_append_right _ (List.mem_append_right _ (List.mem_append_right _ (List.mem_append_right _ (List.mem_append_right _ (List.mem_append_right _ (List.mem_append_right _ (List.mem_append_right _ (List.mem_append_right _ (List.mem_append_left _ h))))))))))))))))))))))))))))))))))
theorem k_26_0 : (Cond.code yX3_walkFrom cX3_walkFrom 9 none) ∈ wAll := r26_sub _ (List.mem_of_getElem? (i := 0) rfl)
theorem k_26_1 : (Cond.methodLink RX3 77 yX3_driveOf) ∈ wAll := r26_sub _ (List.mem_of_getElem? (i := 1) rfl)
theorem k_26_2 : (Cond.instanceMethod yX3_driveOf) ∈ wAll := r26_sub _ (List.mem_of_getElem? (i := 2) rfl)
theorem k_26_3 : (Cond.selects RX3 yX3_driveOf yX3_driveOf) ∈ wAll := r26_sub _ (List.mem_of_getElem? (i := 3) rfl)
theorem k_26_4 : (Cond.code yX3_driveOf cX3_driveOf 4 (some .int)) ∈ wAll := r26_sub _ (List.mem_of_getElem? (i := 4) rfl)
theorem k_26_5 : (Cond.methodLink RX3 81 yX3_meetWay) ∈ wAll := r26_sub _ (List.mem_of_getElem? (i := 5) rfl)
theorem k_26_6 : (Cond.instanceMethod yX3_meetWay) ∈ wAll := r26_sub _ (List.mem_of_getElem? (i := 6) rfl)
theorem k_26_7 : (Cond.selects RX3 yX3_meetWay yX3_meetWay) ∈ wAll := r26_sub _ (List.mem_of_getElem? (i := 7) rfl)
theorem k_26_8 : (Cond.code yX3_meetWay cX3_meetWay 4 none) ∈ wAll := r26_sub _ (List.mem_of_getElem? (i := 8) rfl)
theorem k_26_9 : (Cond.methodLink RX3 85 Lib.Math.min.name) ∈ wAll := r26_sub _ (List.mem_of_getElem? (i := 9) rfl)
theorem k_26_10 : (Cond.methodLink RX3 90 arraycopyName) ∈ wAll := r26_sub _ (List.mem_of_getElem? (i := 10) rfl)
theorem k_26_11 : (Cond.methodLink RL 62 yX7_least) ∈ wAll := r26_sub _ (List.mem_of_getElem? (i := 11) rfl)
theorem k_26_12 : (Cond.instanceMethod yX7_least) ∈ wAll := r26_sub _ (List.mem_of_getElem? (i := 12) rfl)
theorem k_26_13 : (Cond.selects RX7 yX7_least yX7_least) ∈ wAll := r26_sub _ (List.mem_of_getElem? (i := 13) rfl)
theorem k_26_14 : (Cond.code yX7_least cX7_least 2 (some .int)) ∈ wAll := r26_sub _ (List.mem_of_getElem? (i := 14) rfl)
theorem k_26_15 : (Cond.fieldLink RX7 188 "EarthBanksModel" "bestMargin" "I") ∈ wAll := r26_sub _ (List.mem_of_getElem? (i := 15) rfl)
theorem k_26_16 : (Cond.fieldLink RX7 197 "EarthBanksModel" "bestFrom" "I") ∈ wAll := r26_sub _ (List.mem_of_getElem? (i := 16) rfl)
theorem k_26_17 : (Cond.methodLink RX7 200 yX7_nothing) ∈ wAll := r26_sub _ (List.mem_of_getElem? (i := 17) rfl)
theorem k_26_18 : (Cond.instanceMethod yX7_nothing) ∈ wAll := r26_sub _ (List.mem_of_getElem? (i := 18) rfl)
theorem k_26_19 : (Cond.selects RX7 yX7_nothing yX7_nothing) ∈ wAll := r26_sub _ (List.mem_of_getElem? (i := 19) rfl)
theorem k_26_20 : (Cond.code yX7_nothing cX7_nothing 2 none) ∈ wAll := r26_sub _ (List.mem_of_getElem? (i := 20) rfl)
theorem k_26_21 : (Cond.methodLink RX7 203 yX7_goes) ∈ wAll := r26_sub _ (List.mem_of_getElem? (i := 21) rfl)
theorem k_26_22 : (Cond.instanceMethod yX7_goes) ∈ wAll := r26_sub _ (List.mem_of_getElem? (i := 22) rfl)
theorem k_26_23 : (Cond.selects RX7 yX7_goes yX7_goes) ∈ wAll := r26_sub _ (List.mem_of_getElem? (i := 23) rfl)
theorem r27_sub : ∀ w ∈ wsL_law_r27, w ∈ wAll := fun _ h => List.mem_append_left _ (List.mem_append_left _ (List.mem_append_left _ (List.mem_append_left _ (List.mem_append_left _ (List.mem_append_left _ (List.mem_append_left _ (List.mem_append_left _ (List.mem_append_left _ (List.mem_append_right _ (List.mem_append_right _ (List.mem_append_right _ (List.mem_append_right _ (List.mem_append_right _ (List.mem_append_right _ (List.mem_append_right _ (List.mem_append_right _ (List.mem_append_right _ (List.mem_append_right _ (List.mem_append_right _ (List.mem_append_right _ (List.mem_append_right _ (List.mem_append_right _ (List.mem_append_right _ (List.mem_append_right _ (List.mem_append_right _ (List.mem_append_right _ (List.mem_append_right _ (List.mem_append_right _ (List.mem_append_right _ (List.mem_append_right _ (List.mem_append_right _ (List.mem_append_right _ (List.mem_append_right _ (List.mem_append_right _ (List.mem_append_left _ h)))))))))))))))))))))))))))))))))))
theorem k_27_0 : (Cond.code yX7_goes cX7_goes 7 none) ∈ wAll := r27_sub _ (List.mem_of_getElem? (i := 0) rfl)
theorem k_27_1 : (Cond.fieldLink RX7 191 "EarthBanksModel" "below" "I") ∈ wAll := r27_sub _ (List.mem_of_getElem? (i := 1) rfl)
theorem k_27_2 : (Cond.methodLink RX7 194 yX7_marginOf) ∈ wAll := r27_sub _ (List.mem_of_getElem? (i := 2) rfl)
theorem k_27_3 : (Cond.instanceMethod yX7_marginOf) ∈ wAll := r27_sub _ (List.mem_of_getElem? (i := 3) rfl)
theorem k_27_4 : (Cond.selects RX7 yX7_marginOf yX7_marginOf) ∈ wAll := r27_sub _ (List.mem_of_getElem? (i := 4) rfl)
theorem k_27_5 : (Cond.code yX7_marginOf cX7_marginOf 9 (some .int)) ∈ wAll := r27_sub _ (List.mem_of_getElem? (i := 5) rfl)
theorem k_27_6 : (Cond.methodLink RX7 185 yX7_counts) ∈ wAll := r27_sub _ (List.mem_of_getElem? (i := 6) rfl)
theorem k_27_7 : (Cond.instanceMethod yX7_counts) ∈ wAll := r27_sub _ (List.mem_of_getElem? (i := 7) rfl)
theorem k_27_8 : (Cond.selects RX7 yX7_counts yX7_counts) ∈ wAll := r27_sub _ (List.mem_of_getElem? (i := 8) rfl)
theorem k_27_9 : (Cond.code yX7_counts cX7_counts 2 (some .boolean)) ∈ wAll := r27_sub _ (List.mem_of_getElem? (i := 9) rfl)
theorem k_27_10 : (Cond.methodLink RL 63 yX6_ways) ∈ wAll := r27_sub _ (List.mem_of_getElem? (i := 10) rfl)
theorem k_27_11 : (Cond.instanceMethod yX6_ways) ∈ wAll := r27_sub _ (List.mem_of_getElem? (i := 11) rfl)
theorem k_27_12 : (Cond.selects RX6 yX6_ways yX6_ways) ∈ wAll := r27_sub _ (List.mem_of_getElem? (i := 12) rfl)
theorem k_27_13 : (Cond.code yX6_ways cX6_ways 2 (some .int)) ∈ wAll := r27_sub _ (List.mem_of_getElem? (i := 13) rfl)
theorem k_27_14 : (Cond.fieldLink RX6 200 "EarthBanks$Slides" "belowAim" "I") ∈ wAll := r27_sub _ (List.mem_of_getElem? (i := 14) rfl)
theorem k_27_15 : (Cond.methodLink RL 66 yX7_ways) ∈ wAll := r27_sub _ (List.mem_of_getElem? (i := 15) rfl)
theorem k_27_16 : (Cond.instanceMethod yX7_ways) ∈ wAll := r27_sub _ (List.mem_of_getElem? (i := 16) rfl)
theorem k_27_17 : (Cond.selects RX7 yX7_ways yX7_ways) ∈ wAll := r27_sub _ (List.mem_of_getElem? (i := 17) rfl)
theorem k_27_18 : (Cond.code yX7_ways cX7_ways 2 (some .int)) ∈ wAll := r27_sub _ (List.mem_of_getElem? (i := 18) rfl)
theorem k_27_19 : (Cond.methodLink RL 67 yX6_filter) ∈ wAll := r27_sub _ (List.mem_of_getElem? (i := 19) rfl)
theorem k_27_20 : (Cond.instanceMethod yX6_filter) ∈ wAll := r27_sub _ (List.mem_of_getElem? (i := 20) rfl)
theorem k_27_21 : (Cond.selects RX6 yX6_filter yX6_filter) ∈ wAll := r27_sub _ (List.mem_of_getElem? (i := 21) rfl)
theorem k_27_22 : (Cond.code yX6_filter cX6_filter 3 (some .int)) ∈ wAll := r27_sub _ (List.mem_of_getElem? (i := 22) rfl)
theorem k_27_23 : (Cond.methodLink RL 70 yX7_filter) ∈ wAll := r27_sub _ (List.mem_of_getElem? (i := 23) rfl)
theorem r28_sub : ∀ w ∈ wsL_law_r28, w ∈ wAll := fun _ h => List.mem_append_left _ (List.mem_append_left _ (List.mem_append_left _ (List.mem_append_left _ (List.mem_append_left _ (List.mem_append_left _ (List.mem_append_left _ (List.mem_append_left _ (List.mem_append_left _ (List.mem_append_right _ (List.mem_append_right _ (List.mem_append_right _ (List.mem_append_right _ (List.mem_append_right _ (List.mem_append_right _ (List.mem_append_right _ (List.mem_append_right _ (List.mem_append_right _ (List.mem_append_right _ (List.mem_append_right _ (List.mem_append_right _ (List.mem_append_right _ (List.mem_append_right _ (List.mem_append_right _ (List.mem_append_right _ (List.mem_append_right _ (List.mem_append_right _ (List.mem_append_right _ (List.mem_append_right _ (List.mem_append_right _ (List.mem_append_right _ (List.mem_append_right _ (List.mem_append_right _ (List.mem_append_right _ (List.mem_append_right _ (List.mem_append_right _ (List.mem_append_left _ h))))))))))))))))))))))))))))))))))))
theorem k_28_0 : (Cond.instanceMethod yX7_filter) ∈ wAll := r28_sub _ (List.mem_of_getElem? (i := 0) rfl)
theorem k_28_1 : (Cond.selects RX7 yX7_filter yX7_filter) ∈ wAll := r28_sub _ (List.mem_of_getElem? (i := 1) rfl)
theorem k_28_2 : (Cond.code yX7_filter cX7_filter 3 (some .int)) ∈ wAll := r28_sub _ (List.mem_of_getElem? (i := 2) rfl)
theorem k_28_3 : (Cond.methodLink RL 71 yX6_day) ∈ wAll := r28_sub _ (List.mem_of_getElem? (i := 3) rfl)
theorem k_28_4 : (Cond.instanceMethod yX6_day) ∈ wAll := r28_sub _ (List.mem_of_getElem? (i := 4) rfl)
theorem k_28_5 : (Cond.selects RX6 yX6_day yX6_day) ∈ wAll := r28_sub _ (List.mem_of_getElem? (i := 5) rfl)
theorem k_28_6 : (Cond.code yX6_day cX6_day 1 (some .int)) ∈ wAll := r28_sub _ (List.mem_of_getElem? (i := 6) rfl)
theorem k_28_7 : (Cond.methodLink RX6 203 yX2_passDay) ∈ wAll := r28_sub _ (List.mem_of_getElem? (i := 7) rfl)
theorem k_28_8 : (Cond.instanceMethod yX2_passDay) ∈ wAll := r28_sub _ (List.mem_of_getElem? (i := 8) rfl)
theorem k_28_9 : (Cond.selects RX2 yX2_passDay yX2_passDay) ∈ wAll := r28_sub _ (List.mem_of_getElem? (i := 9) rfl)
theorem k_28_10 : (Cond.code yX2_passDay cX2_passDay 4 (some .int)) ∈ wAll := r28_sub _ (List.mem_of_getElem? (i := 10) rfl)
theorem k_28_11 : (Cond.methodLink RX2 116 yX2_isLoose) ∈ wAll := r28_sub _ (List.mem_of_getElem? (i := 11) rfl)
theorem k_28_12 : (Cond.instanceMethod yX2_isLoose) ∈ wAll := r28_sub _ (List.mem_of_getElem? (i := 12) rfl)
theorem k_28_13 : (Cond.selects RX2 yX2_isLoose yX2_isLoose) ∈ wAll := r28_sub _ (List.mem_of_getElem? (i := 13) rfl)
theorem k_28_14 : (Cond.code yX2_isLoose cX2_isLoose 3 (some .boolean)) ∈ wAll := r28_sub _ (List.mem_of_getElem? (i := 14) rfl)
theorem k_28_15 : (Cond.methodLink RX2 120 yX2_holdAt) ∈ wAll := r28_sub _ (List.mem_of_getElem? (i := 15) rfl)
theorem k_28_16 : (Cond.methodLink RX2 123 yX2_isOpen) ∈ wAll := r28_sub _ (List.mem_of_getElem? (i := 16) rfl)
theorem k_28_17 : (Cond.instanceMethod yX2_isOpen) ∈ wAll := r28_sub _ (List.mem_of_getElem? (i := 17) rfl)
theorem k_28_18 : (Cond.selects RX2 yX2_isOpen yX2_isOpen) ∈ wAll := r28_sub _ (List.mem_of_getElem? (i := 18) rfl)
theorem k_28_19 : (Cond.code yX2_isOpen cX2_isOpen 6 (some .boolean)) ∈ wAll := r28_sub _ (List.mem_of_getElem? (i := 19) rfl)
theorem k_28_20 : (Cond.methodLink RX2 126 yX2_grainAt) ∈ wAll := r28_sub _ (List.mem_of_getElem? (i := 20) rfl)
theorem k_28_21 : (Cond.instanceMethod yX2_grainAt) ∈ wAll := r28_sub _ (List.mem_of_getElem? (i := 21) rfl)
theorem k_28_22 : (Cond.selects RX2 yX2_grainAt yX2_grainAt) ∈ wAll := r28_sub _ (List.mem_of_getElem? (i := 22) rfl)
theorem k_28_23 : (Cond.code yX2_grainAt cX2_grainAt 2 (some .int)) ∈ wAll := r28_sub _ (List.mem_of_getElem? (i := 23) rfl)
theorem r29_sub : ∀ w ∈ wsL_law_r29, w ∈ wAll := fun _ h => List.mem_append_left _ (List.mem_append_left _ (List.mem_append_left _ (List.mem_append_left _ (List.mem_append_left _ (List.mem_append_left _ (List.mem_append_left _ (List.mem_append_left _ (List.mem_append_left _ (List.mem_append_right _ (List.mem_append_right _ (List.mem_append_right _ (List.mem_append_right _ (List.mem_append_right _ (List.mem_append_right _ (List.mem_append_right _ (List.mem_append_right _ (List.mem_append_right _ (List.mem_append_right _ (List.mem_append_right _ (List.mem_append_right _ (List.mem_append_right _ (List.mem_append_right _ (List.mem_append_right _ (List.mem_append_right _ (List.mem_append_right _ (List.mem_append_right _ (List.mem_append_right _ (List.mem_append_right _ (List.mem_append_right _ (List.mem_append_right _ (List.mem_append_right _ (List.mem_append_right _ (List.mem_append_right _ (List.mem_append_right _ (List.mem_append_right _ (List.mem_append_right _ (List.mem_append_left _ h)))))))))))))))))))))))))))))))))))))
theorem k_29_0 : (Cond.methodLink RL 74 yX7_day) ∈ wAll := r29_sub _ (List.mem_of_getElem? (i := 0) rfl)
theorem k_29_1 : (Cond.instanceMethod yX7_day) ∈ wAll := r29_sub _ (List.mem_of_getElem? (i := 1) rfl)
theorem k_29_2 : (Cond.selects RX7 yX7_day yX7_day) ∈ wAll := r29_sub _ (List.mem_of_getElem? (i := 2) rfl)
theorem k_29_3 : (Cond.code yX7_day cX7_day 1 (some .int)) ∈ wAll := r29_sub _ (List.mem_of_getElem? (i := 3) rfl)
theorem k_29_4 : (Cond.methodLink RX7 210 yX7_days) ∈ wAll := r29_sub _ (List.mem_of_getElem? (i := 4) rfl)
theorem k_29_5 : (Cond.instanceMethod yX7_days) ∈ wAll := r29_sub _ (List.mem_of_getElem? (i := 5) rfl)
theorem k_29_6 : (Cond.selects RX7 yX7_days yX7_days) ∈ wAll := r29_sub _ (List.mem_of_getElem? (i := 6) rfl)
theorem k_29_7 : (Cond.code yX7_days cX7_days 3 (some .int)) ∈ wAll := r29_sub _ (List.mem_of_getElem? (i := 7) rfl)
theorem k_29_8 : (Cond.methodLink RX7 207 yX7_isLoose) ∈ wAll := r29_sub _ (List.mem_of_getElem? (i := 8) rfl)
theorem k_29_9 : (Cond.instanceMethod yX7_isLoose) ∈ wAll := r29_sub _ (List.mem_of_getElem? (i := 9) rfl)
theorem k_29_10 : (Cond.selects RX7 yX7_isLoose yX7_isLoose) ∈ wAll := r29_sub _ (List.mem_of_getElem? (i := 10) rfl)
theorem k_29_11 : (Cond.code yX7_isLoose cX7_isLoose 5 (some .boolean)) ∈ wAll := r29_sub _ (List.mem_of_getElem? (i := 11) rfl)
theorem k_29_12 : (Cond.methodLink RL 75 yX6_breach) ∈ wAll := r29_sub _ (List.mem_of_getElem? (i := 12) rfl)
theorem k_29_13 : (Cond.instanceMethod yX6_breach) ∈ wAll := r29_sub _ (List.mem_of_getElem? (i := 13) rfl)
theorem k_29_14 : (Cond.selects RX6 yX6_breach yX6_breach) ∈ wAll := r29_sub _ (List.mem_of_getElem? (i := 14) rfl)
theorem k_29_15 : (Cond.code yX6_breach cX6_breach 1 (some .int)) ∈ wAll := r29_sub _ (List.mem_of_getElem? (i := 15) rfl)
theorem k_29_16 : (Cond.methodLink RX6 206 yX2_daysToBreach) ∈ wAll := r29_sub _ (List.mem_of_getElem? (i := 16) rfl)
theorem k_29_17 : (Cond.instanceMethod yX2_daysToBreach) ∈ wAll := r29_sub _ (List.mem_of_getElem? (i := 17) rfl)
theorem k_29_18 : (Cond.selects RX2 yX2_daysToBreach yX2_daysToBreach) ∈ wAll := r29_sub _ (List.mem_of_getElem? (i := 18) rfl)
theorem k_29_19 : (Cond.code yX2_daysToBreach cX2_daysToBreach 4 (some .int)) ∈ wAll := r29_sub _ (List.mem_of_getElem? (i := 19) rfl)
theorem k_29_20 : (Cond.methodLink RX2 129 yX2_earthAtFront) ∈ wAll := r29_sub _ (List.mem_of_getElem? (i := 20) rfl)
theorem k_29_21 : (Cond.instanceMethod yX2_earthAtFront) ∈ wAll := r29_sub _ (List.mem_of_getElem? (i := 21) rfl)
theorem k_29_22 : (Cond.selects RX2 yX2_earthAtFront yX2_earthAtFront) ∈ wAll := r29_sub _ (List.mem_of_getElem? (i := 22) rfl)
theorem k_29_23 : (Cond.code yX2_earthAtFront cX2_earthAtFront 3 (some .int)) ∈ wAll := r29_sub _ (List.mem_of_getElem? (i := 23) rfl)
theorem r30_sub : ∀ w ∈ wsL_law_r30, w ∈ wAll := fun _ h => List.mem_append_left _ (List.mem_append_left _ (List.mem_append_left _ (List.mem_append_left _ (List.mem_append_left _ (List.mem_append_left _ (List.mem_append_left _ (List.mem_append_left _ (List.mem_append_left _ (List.mem_append_right _ (List.mem_append_right _ (List.mem_append_right _ (List.mem_append_right _ (List.mem_append_right _ (List.mem_append_right _ (List.mem_append_right _ (List.mem_append_right _ (List.mem_append_right _ (List.mem_append_right _ (List.mem_append_right _ (List.mem_append_right _ (List.mem_append_right _ (List.mem_append_right _ (List.mem_append_right _ (List.mem_append_right _ (List.mem_append_right _ (List.mem_append_right _ (List.mem_append_right _ (List.mem_append_right _ (List.mem_append_right _ (List.mem_append_right _ (List.mem_append_right _ (List.mem_append_right _ (List.mem_append_right _ (List.mem_append_right _ (List.mem_append_right _ (List.mem_append_right _ (List.mem_append_right _ (List.mem_append_left _ h))))))))))))))))))))))))))))))))))))))
theorem k_30_0 : (Cond.methodLink RX2 132 yX2_passDay) ∈ wAll := r30_sub _ (List.mem_of_getElem? (i := 0) rfl)
theorem k_30_1 : (Cond.methodLink RL 78 yX7_breach) ∈ wAll := r30_sub _ (List.mem_of_getElem? (i := 1) rfl)
theorem k_30_2 : (Cond.instanceMethod yX7_breach) ∈ wAll := r30_sub _ (List.mem_of_getElem? (i := 2) rfl)
theorem k_30_3 : (Cond.selects RX7 yX7_breach yX7_breach) ∈ wAll := r30_sub _ (List.mem_of_getElem? (i := 3) rfl)
theorem k_30_4 : (Cond.code yX7_breach cX7_breach 2 (some .int)) ∈ wAll := r30_sub _ (List.mem_of_getElem? (i := 4) rfl)
theorem k_30_5 : (Cond.methodLink RX7 213 yX7_saves) ∈ wAll := r30_sub _ (List.mem_of_getElem? (i := 5) rfl)
theorem k_30_6 : (Cond.instanceMethod yX7_saves) ∈ wAll := r30_sub _ (List.mem_of_getElem? (i := 6) rfl)
theorem k_30_7 : (Cond.selects RX7 yX7_saves yX7_saves) ∈ wAll := r30_sub _ (List.mem_of_getElem? (i := 7) rfl)
theorem k_30_8 : (Cond.code yX7_saves cX7_saves 3 none) ∈ wAll := r30_sub _ (List.mem_of_getElem? (i := 8) rfl)
theorem k_30_9 : (Cond.methodLink RX7 217 yX7_breaks) ∈ wAll := r30_sub _ (List.mem_of_getElem? (i := 9) rfl)
theorem k_30_10 : (Cond.instanceMethod yX7_breaks) ∈ wAll := r30_sub _ (List.mem_of_getElem? (i := 10) rfl)
theorem k_30_11 : (Cond.selects RX7 yX7_breaks yX7_breaks) ∈ wAll := r30_sub _ (List.mem_of_getElem? (i := 11) rfl)
theorem k_30_12 : (Cond.code yX7_breaks cX7_breaks 3 (some .int)) ∈ wAll := r30_sub _ (List.mem_of_getElem? (i := 12) rfl)
theorem k_30_13 : (Cond.methodLink RL 79 yX6_highest) ∈ wAll := r30_sub _ (List.mem_of_getElem? (i := 13) rfl)
theorem k_30_14 : (Cond.instanceMethod yX6_highest) ∈ wAll := r30_sub _ (List.mem_of_getElem? (i := 14) rfl)
theorem k_30_15 : (Cond.selects RX6 yX6_highest yX6_highest) ∈ wAll := r30_sub _ (List.mem_of_getElem? (i := 15) rfl)
theorem k_30_16 : (Cond.code yX6_highest cX6_highest 2 (some .int)) ∈ wAll := r30_sub _ (List.mem_of_getElem? (i := 16) rfl)
theorem k_30_17 : (Cond.methodLink RX6 209 yX2_soakAnew) ∈ wAll := r30_sub _ (List.mem_of_getElem? (i := 17) rfl)
theorem k_30_18 : (Cond.instanceMethod yX2_soakAnew) ∈ wAll := r30_sub _ (List.mem_of_getElem? (i := 18) rfl)
theorem k_30_19 : (Cond.selects RX2 yX2_soakAnew yX2_soakAnew) ∈ wAll := r30_sub _ (List.mem_of_getElem? (i := 19) rfl)
theorem k_30_20 : (Cond.code yX2_soakAnew cX2_soakAnew 1 none) ∈ wAll := r30_sub _ (List.mem_of_getElem? (i := 20) rfl)
theorem k_30_21 : (Cond.methodLink RX2 75 yX2_dropHeads) ∈ wAll := r30_sub _ (List.mem_of_getElem? (i := 21) rfl)
theorem k_30_22 : (Cond.methodLink RX2 79 yX2_runSweeps) ∈ wAll := r30_sub _ (List.mem_of_getElem? (i := 22) rfl)
theorem k_30_23 : (Cond.methodLink RL 82 yX7_highest) ∈ wAll := r30_sub _ (List.mem_of_getElem? (i := 23) rfl)
theorem r31_sub : ∀ w ∈ wsL_law_r31, w ∈ wAll := fun _ h => List.mem_append_left _ (List.mem_append_left _ (List.mem_append_left _ (List.mem_append_left _ (List.mem_append_left _ (List.mem_append_left _ (List.mem_append_left _ (List.mem_append_left _ (List.mem_append_left _ (List.mem_append_right _ (List.mem_append_right _ (List.mem_append_right _ (List.mem_append_right _ (List.mem_append_right _ (List.mem_append_right _ (List.mem_append_right _ (List.mem_append_right _ (List.mem_append_right _ (List.mem_append_right _ (List.mem_append_right _ (List.mem_append_right _ (List.mem_append_right _ (List.mem_append_right _ (List.mem_append_right _ (List.mem_append_right _ (List.mem_append_right _ (List.mem_append_right _ (List.mem_append_right _ (List.mem_append_right _ (List.mem_append_right _ (List.mem_append_right _ (List.mem_append_right _ (List.mem_append_right _ (List.mem_append_right _ (List.mem_append_right _ (List.mem_append_right _ (List.mem_append_right _ (List.mem_append_right _ (List.mem_append_right _ (List.mem_append_left _ h)))))))))))))))))))))))))))))))))))))))
theorem k_31_0 : (Cond.instanceMethod yX7_highest) ∈ wAll := r31_sub _ (List.mem_of_getElem? (i := 0) rfl)
theorem k_31_1 : (Cond.selects RX7 yX7_highest yX7_highest) ∈ wAll := r31_sub _ (List.mem_of_getElem? (i := 1) rfl)
theorem k_31_2 : (Cond.code yX7_highest cX7_highest 3 (some .int)) ∈ wAll := r31_sub _ (List.mem_of_getElem? (i := 2) rfl)
theorem k_31_3 : (Cond.methodLink RX7 220 yX7_fills) ∈ wAll := r31_sub _ (List.mem_of_getElem? (i := 3) rfl)
theorem k_31_4 : (Cond.instanceMethod yX7_fills) ∈ wAll := r31_sub _ (List.mem_of_getElem? (i := 4) rfl)
theorem k_31_5 : (Cond.selects RX7 yX7_fills yX7_fills) ∈ wAll := r31_sub _ (List.mem_of_getElem? (i := 5) rfl)
theorem k_31_6 : (Cond.code yX7_fills cX7_fills 3 none) ∈ wAll := r31_sub _ (List.mem_of_getElem? (i := 6) rfl)
theorem k_31_7 : (Cond.methodLink RL 83 yX6_pool) ∈ wAll := r31_sub _ (List.mem_of_getElem? (i := 7) rfl)
theorem k_31_8 : (Cond.instanceMethod yX6_pool) ∈ wAll := r31_sub _ (List.mem_of_getElem? (i := 8) rfl)
theorem k_31_9 : (Cond.selects RX6 yX6_pool yX6_pool) ∈ wAll := r31_sub _ (List.mem_of_getElem? (i := 9) rfl)
theorem k_31_10 : (Cond.code yX6_pool cX6_pool 3 (some .int)) ∈ wAll := r31_sub _ (List.mem_of_getElem? (i := 10) rfl)
theorem k_31_11 : (Cond.methodLink RX6 212 yX6_isPoolWater) ∈ wAll := r31_sub _ (List.mem_of_getElem? (i := 11) rfl)
theorem k_31_12 : (Cond.static yX6_isPoolWater) ∈ wAll := r31_sub _ (List.mem_of_getElem? (i := 12) rfl)
theorem k_31_13 : (Cond.code yX6_isPoolWater cX6_isPoolWater 1 (some .boolean)) ∈ wAll := r31_sub _ (List.mem_of_getElem? (i := 13) rfl)
theorem k_31_14 : (Cond.methodLink RX6 215 yX1_change) ∈ wAll := r31_sub _ (List.mem_of_getElem? (i := 14) rfl)
theorem k_31_15 : (Cond.instanceMethod yX1_change) ∈ wAll := r31_sub _ (List.mem_of_getElem? (i := 15) rfl)
theorem k_31_16 : (Cond.selects RX1 yX1_change yX1_change) ∈ wAll := r31_sub _ (List.mem_of_getElem? (i := 16) rfl)
theorem k_31_17 : (Cond.code yX1_change cX1_change 4 (some .int)) ∈ wAll := r31_sub _ (List.mem_of_getElem? (i := 17) rfl)
theorem k_31_18 : (Cond.methodLink RL 87 yX7_pool) ∈ wAll := r31_sub _ (List.mem_of_getElem? (i := 18) rfl)
theorem k_31_19 : (Cond.instanceMethod yX7_pool) ∈ wAll := r31_sub _ (List.mem_of_getElem? (i := 19) rfl)
theorem k_31_20 : (Cond.selects RX7 yX7_pool yX7_pool) ∈ wAll := r31_sub _ (List.mem_of_getElem? (i := 20) rfl)
theorem k_31_21 : (Cond.code yX7_pool cX7_pool 4 (some .int)) ∈ wAll := r31_sub _ (List.mem_of_getElem? (i := 21) rfl)
theorem k_31_22 : (Cond.methodLink RL 88 yX6_flood) ∈ wAll := r31_sub _ (List.mem_of_getElem? (i := 22) rfl)
theorem k_31_23 : (Cond.instanceMethod yX6_flood) ∈ wAll := r31_sub _ (List.mem_of_getElem? (i := 23) rfl)
theorem r32_sub : ∀ w ∈ wsL_law_r32, w ∈ wAll := fun _ h => List.mem_append_left _ (List.mem_append_left _ (List.mem_append_left _ (List.mem_append_left _ (List.mem_append_left _ (List.mem_append_left _ (List.mem_append_left _ (List.mem_append_left _ (List.mem_append_left _ (List.mem_append_right _ (List.mem_append_right _ (List.mem_append_right _ (List.mem_append_right _ (List.mem_append_right _ (List.mem_append_right _ (List.mem_append_right _ (List.mem_append_right _ (List.mem_append_right _ (List.mem_append_right _ (List.mem_append_right _ (List.mem_append_right _ (List.mem_append_right _ (List.mem_append_right _ (List.mem_append_right _ (List.mem_append_right _ (List.mem_append_right _ (List.mem_append_right _ (List.mem_append_right _ (List.mem_append_right _ (List.mem_append_right _ (List.mem_append_right _ (List.mem_append_right _ (List.mem_append_right _ (List.mem_append_right _ (List.mem_append_right _ (List.mem_append_right _ (List.mem_append_right _ (List.mem_append_right _ (List.mem_append_right _ (List.mem_append_right _ (List.mem_append_left _ h))))))))))))))))))))))))))))))))))))))))
theorem k_32_0 : (Cond.selects RX6 yX6_flood yX6_flood) ∈ wAll := r32_sub _ (List.mem_of_getElem? (i := 0) rfl)
theorem k_32_1 : (Cond.code yX6_flood cX6_flood 3 (some .int)) ∈ wAll := r32_sub _ (List.mem_of_getElem? (i := 1) rfl)
theorem k_32_2 : (Cond.fieldLink RX6 224 "EarthBanks$Reservoir" "hours" "[I") ∈ wAll := r32_sub _ (List.mem_of_getElem? (i := 2) rfl)
theorem k_32_3 : (Cond.methodLink RX6 218 yX6_isFlood) ∈ wAll := r32_sub _ (List.mem_of_getElem? (i := 3) rfl)
theorem k_32_4 : (Cond.static yX6_isFlood) ∈ wAll := r32_sub _ (List.mem_of_getElem? (i := 4) rfl)
theorem k_32_5 : (Cond.code yX6_isFlood cX6_isFlood 1 (some .boolean)) ∈ wAll := r32_sub _ (List.mem_of_getElem? (i := 5) rfl)
theorem k_32_6 : (Cond.methodLink RX6 221 yX1_addHour) ∈ wAll := r32_sub _ (List.mem_of_getElem? (i := 6) rfl)
theorem k_32_7 : (Cond.instanceMethod yX1_addHour) ∈ wAll := r32_sub _ (List.mem_of_getElem? (i := 7) rfl)
theorem k_32_8 : (Cond.selects RX1 yX1_addHour yX1_addHour) ∈ wAll := r32_sub _ (List.mem_of_getElem? (i := 8) rfl)
theorem k_32_9 : (Cond.code yX1_addHour cX1_addHour 3 (some .boolean)) ∈ wAll := r32_sub _ (List.mem_of_getElem? (i := 9) rfl)
theorem k_32_10 : (Cond.methodLink RL 91 yX7_flood) ∈ wAll := r32_sub _ (List.mem_of_getElem? (i := 10) rfl)
theorem k_32_11 : (Cond.instanceMethod yX7_flood) ∈ wAll := r32_sub _ (List.mem_of_getElem? (i := 11) rfl)
theorem k_32_12 : (Cond.selects RX7 yX7_flood yX7_flood) ∈ wAll := r32_sub _ (List.mem_of_getElem? (i := 12) rfl)
theorem k_32_13 : (Cond.code yX7_flood cX7_flood 3 (some .int)) ∈ wAll := r32_sub _ (List.mem_of_getElem? (i := 13) rfl)
theorem k_32_14 : (Cond.methodLink RL 92 yX6_ebb) ∈ wAll := r32_sub _ (List.mem_of_getElem? (i := 14) rfl)
theorem k_32_15 : (Cond.instanceMethod yX6_ebb) ∈ wAll := r32_sub _ (List.mem_of_getElem? (i := 15) rfl)
theorem k_32_16 : (Cond.selects RX6 yX6_ebb yX6_ebb) ∈ wAll := r32_sub _ (List.mem_of_getElem? (i := 16) rfl)
theorem k_32_17 : (Cond.code yX6_ebb cX6_ebb 2 (some .int)) ∈ wAll := r32_sub _ (List.mem_of_getElem? (i := 17) rfl)
theorem k_32_18 : (Cond.methodLink RX6 227 yX1_emptyFlood) ∈ wAll := r32_sub _ (List.mem_of_getElem? (i := 18) rfl)
theorem k_32_19 : (Cond.instanceMethod yX1_emptyFlood) ∈ wAll := r32_sub _ (List.mem_of_getElem? (i := 19) rfl)
theorem k_32_20 : (Cond.selects RX1 yX1_emptyFlood yX1_emptyFlood) ∈ wAll := r32_sub _ (List.mem_of_getElem? (i := 20) rfl)
theorem k_32_21 : (Cond.code yX1_emptyFlood cX1_emptyFlood 3 (some .int)) ∈ wAll := r32_sub _ (List.mem_of_getElem? (i := 21) rfl)
theorem k_32_22 : (Cond.methodLink RL 95 yX7_ebb) ∈ wAll := r32_sub _ (List.mem_of_getElem? (i := 22) rfl)
theorem k_32_23 : (Cond.instanceMethod yX7_ebb) ∈ wAll := r32_sub _ (List.mem_of_getElem? (i := 23) rfl)
theorem r33_sub : ∀ w ∈ wsL_law_r33, w ∈ wAll := fun _ h => List.mem_append_left _ (List.mem_append_left _ (List.mem_append_left _ (List.mem_append_left _ (List.mem_append_left _ (List.mem_append_left _ (List.mem_append_left _ (List.mem_append_left _ (List.mem_append_left _ (List.mem_append_right _ (List.mem_append_right _ (List.mem_append_right _ (List.mem_append_right _ (List.mem_append_right _ (List.mem_append_right _ (List.mem_append_right _ (List.mem_append_right _ (List.mem_append_right _ (List.mem_append_right _ (List.mem_append_right _ (List.mem_append_right _ (List.mem_append_right _ (List.mem_append_right _ (List.mem_append_right _ (List.mem_append_right _ (List.mem_append_right _ (List.mem_append_right _ (List.mem_append_right _ (List.mem_append_right _ (List.mem_append_right _ (List.mem_append_right _ (List.mem_append_right _ (List.mem_append_right _ (List.mem_append_right _ (List.mem_append_right _ (List.mem_append_right _ (List.mem_append_right _ (List.mem_append_right _ (List.mem_append_right _ (List.mem_append_right _ (List.mem_append_right _ (List.mem_append_left _ h)))))))))))))))))))))))))))))))))))))))))
theorem k_33_0 : (Cond.selects RX7 yX7_ebb yX7_ebb) ∈ wAll := r33_sub _ (List.mem_of_getElem? (i := 0) rfl)
theorem k_33_1 : (Cond.code yX7_ebb cX7_ebb 3 (some .int)) ∈ wAll := r33_sub _ (List.mem_of_getElem? (i := 1) rfl)
theorem k_33_2 : (Cond.methodLink RL 96 yX6_route) ∈ wAll := r33_sub _ (List.mem_of_getElem? (i := 2) rfl)
theorem k_33_3 : (Cond.instanceMethod yX6_route) ∈ wAll := r33_sub _ (List.mem_of_getElem? (i := 3) rfl)
theorem k_33_4 : (Cond.selects RX6 yX6_route yX6_route) ∈ wAll := r33_sub _ (List.mem_of_getElem? (i := 4) rfl)
theorem k_33_5 : (Cond.code yX6_route cX6_route 4 (some .int)) ∈ wAll := r33_sub _ (List.mem_of_getElem? (i := 5) rfl)
theorem k_33_6 : (Cond.fieldLink RX6 234 "EarthBanks$Reservoir" "water" "I") ∈ wAll := r33_sub _ (List.mem_of_getElem? (i := 6) rfl)
theorem k_33_7 : (Cond.fieldLink RX6 237 "EarthBanks$Reservoir" "hoursOver" "I") ∈ wAll := r33_sub _ (List.mem_of_getElem? (i := 7) rfl)
theorem k_33_8 : (Cond.fieldLink RX6 240 "EarthBanks$Reservoir" "town" "I") ∈ wAll := r33_sub _ (List.mem_of_getElem? (i := 8) rfl)
theorem k_33_9 : (Cond.fieldLink RX6 247 "EarthBanks$Reservoir" "letOut" "I") ∈ wAll := r33_sub _ (List.mem_of_getElem? (i := 9) rfl)
theorem k_33_10 : (Cond.methodLink RX6 230 yX1_run) ∈ wAll := r33_sub _ (List.mem_of_getElem? (i := 10) rfl)
theorem k_33_11 : (Cond.instanceMethod yX1_run) ∈ wAll := r33_sub _ (List.mem_of_getElem? (i := 11) rfl)
theorem k_33_12 : (Cond.selects RX1 yX1_run yX1_run) ∈ wAll := r33_sub _ (List.mem_of_getElem? (i := 12) rfl)
theorem k_33_13 : (Cond.code yX1_run cX1_run 4 none) ∈ wAll := r33_sub _ (List.mem_of_getElem? (i := 13) rfl)
theorem k_33_14 : (Cond.methodLink RX1 34 yX1_passHour) ∈ wAll := r33_sub _ (List.mem_of_getElem? (i := 14) rfl)
theorem k_33_15 : (Cond.instanceMethod yX1_passHour) ∈ wAll := r33_sub _ (List.mem_of_getElem? (i := 15) rfl)
theorem k_33_16 : (Cond.selects RX1 yX1_passHour yX1_passHour) ∈ wAll := r33_sub _ (List.mem_of_getElem? (i := 16) rfl)
theorem k_33_17 : (Cond.code yX1_passHour cX1_passHour 6 none) ∈ wAll := r33_sub _ (List.mem_of_getElem? (i := 17) rfl)
theorem k_33_18 : (Cond.methodLink RX1 38 Lib.Math.min.name) ∈ wAll := r33_sub _ (List.mem_of_getElem? (i := 18) rfl)
theorem k_33_19 : (Cond.methodLink RX1 44 Lib.Math.max.name) ∈ wAll := r33_sub _ (List.mem_of_getElem? (i := 19) rfl)
theorem k_33_20 : (Cond.methodLink RX6 243 yX1_wasSafe) ∈ wAll := r33_sub _ (List.mem_of_getElem? (i := 20) rfl)
theorem k_33_21 : (Cond.instanceMethod yX1_wasSafe) ∈ wAll := r33_sub _ (List.mem_of_getElem? (i := 21) rfl)
theorem k_33_22 : (Cond.selects RX1 yX1_wasSafe yX1_wasSafe) ∈ wAll := r33_sub _ (List.mem_of_getElem? (i := 22) rfl)
theorem k_33_23 : (Cond.code yX1_wasSafe cX1_wasSafe 1 (some .boolean)) ∈ wAll := r33_sub _ (List.mem_of_getElem? (i := 23) rfl)
theorem r34_sub : ∀ w ∈ wsL_law_r34, w ∈ wAll := fun _ h => List.mem_append_left _ (List.mem_append_left _ (List.mem_append_left _ (List.mem_append_left _ (List.mem_append_left _ (List.mem_append_left _ (List.mem_append_left _ (List.mem_append_left _ (List.mem_append_left _ (List.mem_append_right _ (List.mem_append_right _ (List.mem_append_right _ (List.mem_append_right _ (List.mem_append_right _ (List.mem_append_right _ (List.mem_append_right _ (List.mem_append_right _ (List.mem_append_right _ (List.mem_append_right _ (List.mem_append_right _ (List.mem_append_right _ (List.mem_append_right _ (List.mem_append_right _ (List.mem_append_right _ (List.mem_append_right _ (List.mem_append_right _ (List.mem_append_right _ (List.mem_append_right _ (List.mem_append_right _ (List.mem_append_right _ (List.mem_append_right _ (List.mem_append_right _ (List.mem_append_right _ (List.mem_append_right _ (List.mem_append_right _ (List.mem_append_right _ (List.mem_append_right _ (List.mem_append_right _ (List.mem_append_right _ (List.mem_append_right _ (List.mem_append_right _ (List.mem_append_right _ (List.mem_append_left _ h))))))))))))))))))))))))))))))))))))))))))
theorem k_34_0 : (Cond.methodLink RL 99 yX7_route) ∈ wAll := r34_sub _ (List.mem_of_getElem? (i := 0) rfl)
theorem k_34_1 : (Cond.instanceMethod yX7_route) ∈ wAll := r34_sub _ (List.mem_of_getElem? (i := 1) rfl)
theorem k_34_2 : (Cond.selects RX7 yX7_route yX7_route) ∈ wAll := r34_sub _ (List.mem_of_getElem? (i := 2) rfl)
theorem k_34_3 : (Cond.code yX7_route cX7_route 5 (some .int)) ∈ wAll := r34_sub _ (List.mem_of_getElem? (i := 3) rfl)
theorem k_34_4 : (Cond.fieldLink RX7 232 "EarthBanksModel" "poolEnd" "I") ∈ wAll := r34_sub _ (List.mem_of_getElem? (i := 4) rfl)
theorem k_34_5 : (Cond.fieldLink RX7 223 "EarthBanksModel" "poolOver" "I") ∈ wAll := r34_sub _ (List.mem_of_getElem? (i := 5) rfl)
theorem k_34_6 : (Cond.fieldLink RX7 226 "EarthBanksModel" "poolTown" "I") ∈ wAll := r34_sub _ (List.mem_of_getElem? (i := 6) rfl)
theorem k_34_7 : (Cond.fieldLink RX7 229 "EarthBanksModel" "poolOut" "I") ∈ wAll := r34_sub _ (List.mem_of_getElem? (i := 7) rfl)
theorem k_34_8 : (Cond.methodLink RX7 239 yX7_isSafe) ∈ wAll := r34_sub _ (List.mem_of_getElem? (i := 8) rfl)
theorem k_34_9 : (Cond.instanceMethod yX7_isSafe) ∈ wAll := r34_sub _ (List.mem_of_getElem? (i := 9) rfl)
theorem k_34_10 : (Cond.selects RX7 yX7_isSafe yX7_isSafe) ∈ wAll := r34_sub _ (List.mem_of_getElem? (i := 10) rfl)
theorem k_34_11 : (Cond.code yX7_isSafe cX7_isSafe 3 (some .boolean)) ∈ wAll := r34_sub _ (List.mem_of_getElem? (i := 11) rfl)
theorem k_34_12 : (Cond.methodLink RX7 235 yX7_routes) ∈ wAll := r34_sub _ (List.mem_of_getElem? (i := 12) rfl)
theorem k_34_13 : (Cond.instanceMethod yX7_routes) ∈ wAll := r34_sub _ (List.mem_of_getElem? (i := 13) rfl)
theorem k_34_14 : (Cond.selects RX7 yX7_routes yX7_routes) ∈ wAll := r34_sub _ (List.mem_of_getElem? (i := 14) rfl)
theorem k_34_15 : (Cond.code yX7_routes cX7_routes 8 none) ∈ wAll := r34_sub _ (List.mem_of_getElem? (i := 15) rfl)
theorem k_34_16 : (Cond.methodLink RL 100 yX6_best) ∈ wAll := r34_sub _ (List.mem_of_getElem? (i := 16) rfl)
theorem k_34_17 : (Cond.instanceMethod yX6_best) ∈ wAll := r34_sub _ (List.mem_of_getElem? (i := 17) rfl)
theorem k_34_18 : (Cond.selects RX6 yX6_best yX6_best) ∈ wAll := r34_sub _ (List.mem_of_getElem? (i := 18) rfl)
theorem k_34_19 : (Cond.code yX6_best cX6_best 6 (some .int)) ∈ wAll := r34_sub _ (List.mem_of_getElem? (i := 19) rfl)
theorem k_34_20 : (Cond.methodLink RX6 250 yX1_safeFloods) ∈ wAll := r34_sub _ (List.mem_of_getElem? (i := 20) rfl)
theorem k_34_21 : (Cond.instanceMethod yX1_safeFloods) ∈ wAll := r34_sub _ (List.mem_of_getElem? (i := 21) rfl)
theorem k_34_22 : (Cond.selects RX1 yX1_safeFloods yX1_safeFloods) ∈ wAll := r34_sub _ (List.mem_of_getElem? (i := 22) rfl)
theorem k_34_23 : (Cond.code yX1_safeFloods cX1_safeFloods 4 (some .int)) ∈ wAll := r34_sub _ (List.mem_of_getElem? (i := 23) rfl)
theorem r35_sub : ∀ w ∈ wsL_law_r35, w ∈ wAll := fun _ h => List.mem_append_left _ (List.mem_append_left _ (List.mem_append_left _ (List.mem_append_left _ (List.mem_append_left _ (List.mem_append_left _ (List.mem_append_left _ (List.mem_append_left _ (List.mem_append_left _ (List.mem_append_right _ (List.mem_append_right _ (List.mem_append_right _ (List.mem_append_right _ (List.mem_append_right _ (List.mem_append_right _ (List.mem_append_right _ (List.mem_append_right _ (List.mem_append_right _ (List.mem_append_right _ (List.mem_append_right _ (List.mem_append_right _ (List.mem_append_right _ (List.mem_append_right _ (List.mem_append_right _ (List.mem_append_right _ (List.mem_append_right _ (List.mem_append_right _ (List.mem_append_right _ (List.mem_append_right _ (List.mem_append_right _ (List.mem_append_right _ (List.mem_append_right _ (List.mem_append_right _ (List.mem_append_right _ (List.mem_append_right _ (List.mem_append_right _ (List.mem_append_right _ (List.mem_append_right _ (List.mem_append_right _ (List.mem_append_right _ (List.mem_append_right _ (List.mem_append_right _ (List.mem_append_right _ (List.mem_append_left _ h)))))))))))))))))))))))))))))))))))))))))))
theorem k_35_0 : (Cond.methodLink RX1 47 yX1_run) ∈ wAll := r35_sub _ (List.mem_of_getElem? (i := 0) rfl)
theorem k_35_1 : (Cond.methodLink RX1 50 yX1_wasSafe) ∈ wAll := r35_sub _ (List.mem_of_getElem? (i := 1) rfl)
theorem k_35_2 : (Cond.methodLink RL 103 yX7_best) ∈ wAll := r35_sub _ (List.mem_of_getElem? (i := 2) rfl)
theorem k_35_3 : (Cond.instanceMethod yX7_best) ∈ wAll := r35_sub _ (List.mem_of_getElem? (i := 3) rfl)
theorem k_35_4 : (Cond.selects RX7 yX7_best yX7_best) ∈ wAll := r35_sub _ (List.mem_of_getElem? (i := 4) rfl)
theorem k_35_5 : (Cond.code yX7_best cX7_best 7 (some .int)) ∈ wAll := r35_sub _ (List.mem_of_getElem? (i := 5) rfl)
theorem k_35_6 : (Cond.methodLink RL 104 yX6_gauge) ∈ wAll := r35_sub _ (List.mem_of_getElem? (i := 6) rfl)
theorem k_35_7 : (Cond.instanceMethod yX6_gauge) ∈ wAll := r35_sub _ (List.mem_of_getElem? (i := 7) rfl)
theorem k_35_8 : (Cond.selects RX6 yX6_gauge yX6_gauge) ∈ wAll := r35_sub _ (List.mem_of_getElem? (i := 8) rfl)
theorem k_35_9 : (Cond.code yX6_gauge cX6_gauge 4 (some .int)) ∈ wAll := r35_sub _ (List.mem_of_getElem? (i := 9) rfl)
theorem k_35_10 : (Cond.methodLink RX6 253 yX4_addGauge) ∈ wAll := r35_sub _ (List.mem_of_getElem? (i := 10) rfl)
theorem k_35_11 : (Cond.instanceMethod yX4_addGauge) ∈ wAll := r35_sub _ (List.mem_of_getElem? (i := 11) rfl)
theorem k_35_12 : (Cond.selects RX4 yX4_addGauge yX4_addGauge) ∈ wAll := r35_sub _ (List.mem_of_getElem? (i := 12) rfl)
theorem k_35_13 : (Cond.code yX4_addGauge cX4_addGauge 3 (some .int)) ∈ wAll := r35_sub _ (List.mem_of_getElem? (i := 13) rfl)
theorem k_35_14 : (Cond.methodLink RL 107 yX7_gauge) ∈ wAll := r35_sub _ (List.mem_of_getElem? (i := 14) rfl)
theorem k_35_15 : (Cond.instanceMethod yX7_gauge) ∈ wAll := r35_sub _ (List.mem_of_getElem? (i := 15) rfl)
theorem k_35_16 : (Cond.selects RX7 yX7_gauge yX7_gauge) ∈ wAll := r35_sub _ (List.mem_of_getElem? (i := 16) rfl)
theorem k_35_17 : (Cond.code yX7_gauge cX7_gauge 4 (some .int)) ∈ wAll := r35_sub _ (List.mem_of_getElem? (i := 17) rfl)
theorem k_35_18 : (Cond.fieldLink RX7 242 "EarthBanksModel" "gauges" "I") ∈ wAll := r35_sub _ (List.mem_of_getElem? (i := 18) rfl)
theorem k_35_19 : (Cond.methodLink RL 108 yX6_cause) ∈ wAll := r35_sub _ (List.mem_of_getElem? (i := 19) rfl)
theorem k_35_20 : (Cond.instanceMethod yX6_cause) ∈ wAll := r35_sub _ (List.mem_of_getElem? (i := 20) rfl)
theorem k_35_21 : (Cond.selects RX6 yX6_cause yX6_cause) ∈ wAll := r35_sub _ (List.mem_of_getElem? (i := 21) rfl)
theorem k_35_22 : (Cond.code yX6_cause cX6_cause 3 (some .int)) ∈ wAll := r35_sub _ (List.mem_of_getElem? (i := 22) rfl)
theorem k_35_23 : (Cond.methodLink RX6 256 yX4_addCause) ∈ wAll := r35_sub _ (List.mem_of_getElem? (i := 23) rfl)
theorem r36_sub : ∀ w ∈ wsL_law_r36, w ∈ wAll := fun _ h => List.mem_append_left _ (List.mem_append_left _ (List.mem_append_left _ (List.mem_append_left _ (List.mem_append_left _ (List.mem_append_left _ (List.mem_append_left _ (List.mem_append_left _ (List.mem_append_left _ (List.mem_append_right _ (List.mem_append_right _ (List.mem_append_right _ (List.mem_append_right _ (List.mem_append_right _ (List.mem_append_right _ (List.mem_append_right _ (List.mem_append_right _ (List.mem_append_right _ (List.mem_append_right _ (List.mem_append_right _ (List.mem_append_right _ (List.mem_append_right _ (List.mem_append_right _ (List.mem_append_right _ (List.mem_append_right _ (List.mem_append_right _ (List.mem_append_right _ (List.mem_append_right _ (List.mem_append_right _ (List.mem_append_right _ (List.mem_append_right _ (List.mem_append_right _ (List.mem_append_right _ (List.mem_append_right _ (List.mem_append_right _ (List.mem_append_right _ (List.mem_append_right _ (List.mem_append_right _ (List.mem_append_right _ (List.mem_append_right _ (List.mem_append_right _ (List.mem_append_right _ (List.mem_append_right _ (List.mem_append_right _ (List.mem_append_left _ h))))))))))))))))))))))))))))))))))))))))))))
theorem k_36_0 : (Cond.instanceMethod yX4_addCause) ∈ wAll := r36_sub _ (List.mem_of_getElem? (i := 0) rfl)
theorem k_36_1 : (Cond.selects RX4 yX4_addCause yX4_addCause) ∈ wAll := r36_sub _ (List.mem_of_getElem? (i := 1) rfl)
theorem k_36_2 : (Cond.code yX4_addCause cX4_addCause 3 (some .int)) ∈ wAll := r36_sub _ (List.mem_of_getElem? (i := 2) rfl)
theorem k_36_3 : (Cond.methodLink RL 111 yX7_cause) ∈ wAll := r36_sub _ (List.mem_of_getElem? (i := 3) rfl)
theorem k_36_4 : (Cond.instanceMethod yX7_cause) ∈ wAll := r36_sub _ (List.mem_of_getElem? (i := 4) rfl)
theorem k_36_5 : (Cond.selects RX7 yX7_cause yX7_cause) ∈ wAll := r36_sub _ (List.mem_of_getElem? (i := 5) rfl)
theorem k_36_6 : (Cond.code yX7_cause cX7_cause 3 (some .int)) ∈ wAll := r36_sub _ (List.mem_of_getElem? (i := 6) rfl)
theorem k_36_7 : (Cond.fieldLink RX7 245 "EarthBanksModel" "causes" "I") ∈ wAll := r36_sub _ (List.mem_of_getElem? (i := 7) rfl)
theorem k_36_8 : (Cond.methodLink RL 112 yX6_slack) ∈ wAll := r36_sub _ (List.mem_of_getElem? (i := 8) rfl)
theorem k_36_9 : (Cond.instanceMethod yX6_slack) ∈ wAll := r36_sub _ (List.mem_of_getElem? (i := 9) rfl)
theorem k_36_10 : (Cond.selects RX6 yX6_slack yX6_slack) ∈ wAll := r36_sub _ (List.mem_of_getElem? (i := 10) rfl)
theorem k_36_11 : (Cond.code yX6_slack cX6_slack 3 (some .int)) ∈ wAll := r36_sub _ (List.mem_of_getElem? (i := 11) rfl)
theorem k_36_12 : (Cond.fieldLink RX6 259 "EarthBanks$Watch" "slackAllowed" "I") ∈ wAll := r36_sub _ (List.mem_of_getElem? (i := 12) rfl)
theorem k_36_13 : (Cond.methodLink RL 115 yX7_slack) ∈ wAll := r36_sub _ (List.mem_of_getElem? (i := 13) rfl)
theorem k_36_14 : (Cond.instanceMethod yX7_slack) ∈ wAll := r36_sub _ (List.mem_of_getElem? (i := 14) rfl)
theorem k_36_15 : (Cond.selects RX7 yX7_slack yX7_slack) ∈ wAll := r36_sub _ (List.mem_of_getElem? (i := 15) rfl)
theorem k_36_16 : (Cond.code yX7_slack cX7_slack 3 (some .int)) ∈ wAll := r36_sub _ (List.mem_of_getElem? (i := 16) rfl)
theorem k_36_17 : (Cond.methodLink RL 116 yX6_fits) ∈ wAll := r36_sub _ (List.mem_of_getElem? (i := 17) rfl)
theorem k_36_18 : (Cond.instanceMethod yX6_fits) ∈ wAll := r36_sub _ (List.mem_of_getElem? (i := 18) rfl)
theorem k_36_19 : (Cond.selects RX6 yX6_fits yX6_fits) ∈ wAll := r36_sub _ (List.mem_of_getElem? (i := 19) rfl)
theorem k_36_20 : (Cond.code yX6_fits cX6_fits 1 (some .int)) ∈ wAll := r36_sub _ (List.mem_of_getElem? (i := 20) rfl)
theorem k_36_21 : (Cond.methodLink RX6 262 yX4_tryCauses) ∈ wAll := r36_sub _ (List.mem_of_getElem? (i := 21) rfl)
theorem k_36_22 : (Cond.instanceMethod yX4_tryCauses) ∈ wAll := r36_sub _ (List.mem_of_getElem? (i := 22) rfl)
theorem k_36_23 : (Cond.selects RX4 yX4_tryCauses yX4_tryCauses) ∈ wAll := r36_sub _ (List.mem_of_getElem? (i := 23) rfl)
theorem r37_sub : ∀ w ∈ wsL_law_r37, w ∈ wAll := fun _ h => List.mem_append_left _ (List.mem_append_left _ (List.mem_append_left _ (List.mem_append_left _ (List.mem_append_left _ (List.mem_append_left _ (List.mem_append_left _ (List.mem_append_left _ (List.mem_append_left _ (List.mem_append_right _ (List.mem_append_right _ (List.mem_append_right _ (List.mem_append_right _ (List.mem_append_right _ (List.mem_append_right _ (List.mem_append_right _ (List.mem_append_right _ (List.mem_append_right _ (List.mem_append_right _ (List.mem_append_right _ (List.mem_append_right _ (List.mem_append_right _ (List.mem_append_right _ (List.mem_append_right _ (List.mem_append_right _ (List.mem_append_right _ (List.mem_append_right _ (List.mem_append_right _ (List.mem_append_right _ (List.mem_append_right _ (List.mem_append_right _ (List.mem_append_right _ (List.mem_append_right _ (List.mem_append_right _ (List.mem_append_right _ (List.mem_append_right _ (List.mem_append_right _ (List.mem_append_right _ (List.mem_append_right _ (List.mem_append_right _ (List.mem_append_right _ (List.mem_append_right _ (List.mem_append_right _ (List.mem_append_right _ (List.mem_append_right _ (List.mem_append_left _ h)))))))))))))))))))))))))))))))))))))))))))))
theorem k_37_0 : (Cond.code yX4_tryCauses cX4_tryCauses 5 (some .int)) ∈ wAll := r37_sub _ (List.mem_of_getElem? (i := 0) rfl)
theorem k_37_1 : (Cond.fieldLink RX4 52 "EarthBanks$Slice" "leads" "[I") ∈ wAll := r37_sub _ (List.mem_of_getElem? (i := 1) rfl)
theorem k_37_2 : (Cond.methodLink RX4 40 yJ7_fill_53178) ∈ wAll := r37_sub _ (List.mem_of_getElem? (i := 2) rfl)
theorem k_37_3 : (Cond.methodLink RX4 46 yX2_copy) ∈ wAll := r37_sub _ (List.mem_of_getElem? (i := 3) rfl)
theorem k_37_4 : (Cond.methodLink RX4 55 yX2_soakAnew) ∈ wAll := r37_sub _ (List.mem_of_getElem? (i := 4) rfl)
theorem k_37_5 : (Cond.methodLink RX4 58 yX4_allGaugesAgree) ∈ wAll := r37_sub _ (List.mem_of_getElem? (i := 5) rfl)
theorem k_37_6 : (Cond.instanceMethod yX4_allGaugesAgree) ∈ wAll := r37_sub _ (List.mem_of_getElem? (i := 6) rfl)
theorem k_37_7 : (Cond.selects RX4 yX4_allGaugesAgree yX4_allGaugesAgree) ∈ wAll := r37_sub _ (List.mem_of_getElem? (i := 7) rfl)
theorem k_37_8 : (Cond.code yX4_allGaugesAgree cX4_allGaugesAgree 4 (some .boolean)) ∈ wAll := r37_sub _ (List.mem_of_getElem? (i := 8) rfl)
theorem k_37_9 : (Cond.fieldLink RX4 69 "EarthBanks$Slice" "heads" "[I") ∈ wAll := r37_sub _ (List.mem_of_getElem? (i := 9) rfl)
theorem k_37_10 : (Cond.methodLink RX4 72 Lib.Math.abs.name) ∈ wAll := r37_sub _ (List.mem_of_getElem? (i := 10) rfl)
theorem k_37_11 : (Cond.static Lib.Math.abs.name) ∈ wAll := r37_sub _ (List.mem_of_getElem? (i := 11) rfl)
theorem k_37_12 : (Cond.code Lib.Math.abs.name Lib.Math.abs.code 1 (some .int)) ∈ wAll := r37_sub _ (List.mem_of_getElem? (i := 12) rfl)
theorem k_37_13 : (Cond.methodLink RX4 65 yX2_isEarth) ∈ wAll := r37_sub _ (List.mem_of_getElem? (i := 13) rfl)
theorem k_37_14 : (Cond.methodLink RX4 62 yX4_noteHeads) ∈ wAll := r37_sub _ (List.mem_of_getElem? (i := 14) rfl)
theorem k_37_15 : (Cond.instanceMethod yX4_noteHeads) ∈ wAll := r37_sub _ (List.mem_of_getElem? (i := 15) rfl)
theorem k_37_16 : (Cond.selects RX4 yX4_noteHeads yX4_noteHeads) ∈ wAll := r37_sub _ (List.mem_of_getElem? (i := 16) rfl)
theorem k_37_17 : (Cond.code yX4_noteHeads cX4_noteHeads 3 none) ∈ wAll := r37_sub _ (List.mem_of_getElem? (i := 17) rfl)
theorem k_37_18 : (Cond.methodLink RX4 78 Lib.Math.min.name) ∈ wAll := r37_sub _ (List.mem_of_getElem? (i := 18) rfl)
theorem k_37_19 : (Cond.methodLink RX4 82 Lib.Math.max.name) ∈ wAll := r37_sub _ (List.mem_of_getElem? (i := 19) rfl)
theorem k_37_20 : (Cond.methodLink RL 119 yX7_fits) ∈ wAll := r37_sub _ (List.mem_of_getElem? (i := 20) rfl)
theorem k_37_21 : (Cond.instanceMethod yX7_fits) ∈ wAll := r37_sub _ (List.mem_of_getElem? (i := 21) rfl)
theorem k_37_22 : (Cond.selects RX7 yX7_fits yX7_fits) ∈ wAll := r37_sub _ (List.mem_of_getElem? (i := 22) rfl)
theorem k_37_23 : (Cond.code yX7_fits cX7_fits 1 (some .int)) ∈ wAll := r37_sub _ (List.mem_of_getElem? (i := 23) rfl)
theorem r38_sub : ∀ w ∈ wsL_law_r38, w ∈ wAll := fun _ h => List.mem_append_left _ (List.mem_append_left _ (List.mem_append_left _ (List.mem_append_left _ (List.mem_append_left _ (List.mem_append_left _ (List.mem_append_left _ (List.mem_append_left _ (List.mem_append_left _ (List.mem_append_right _ (List.mem_append_right _ (List.mem_append_right _ (List.mem_append_right _ (List.mem_append_right _ (List.mem_append_right _ (List.mem_append_right _ (List.mem_append_right _ (List.mem_append_right _ (List.mem_append_right _ (List.mem_append_right _ (List.mem_append_right _ (List.mem_append_right _ (List.mem_append_right _ (List.mem_append_right _ (List.mem_append_right _ (List.mem_append_right _ (List.mem_append_right _ (List.mem_append_right _ (List.mem_append_right _ (List.mem_append_right _ (List.mem_append_right _ (List.mem_append_right _ (List.mem_append_right _ (List.mem_append_right _ (List.mem_append_right _ (List.mem_append_right _ (List.mem_append_right _ (List.mem_append_right _ (List.mem_append_right _ (List.mem_append_right _ (List.mem_append_right _ (List.mem_append_right _ (List.mem_append_right _ (List.mem_append_right _ (List.mem_append_right _ (List.mem_append_right _ (List.mem_append_left _ h))))))))))))))))))))))))))))))))))))))))))))))
theorem k_38_0 : (Cond.methodLink RX7 248 yX7_fitting) ∈ wAll := r38_sub _ (List.mem_of_getElem? (i := 0) rfl)
theorem k_38_1 : (Cond.instanceMethod yX7_fitting) ∈ wAll := r38_sub _ (List.mem_of_getElem? (i := 1) rfl)
theorem k_38_2 : (Cond.selects RX7 yX7_fitting yX7_fitting) ∈ wAll := r38_sub _ (List.mem_of_getElem? (i := 2) rfl)
theorem k_38_3 : (Cond.code yX7_fitting cX7_fitting 7 (some .int)) ∈ wAll := r38_sub _ (List.mem_of_getElem? (i := 3) rfl)
theorem k_38_4 : (Cond.methodLink RL 120 yX6_next) ∈ wAll := r38_sub _ (List.mem_of_getElem? (i := 4) rfl)
theorem k_38_5 : (Cond.instanceMethod yX6_next) ∈ wAll := r38_sub _ (List.mem_of_getElem? (i := 5) rfl)
theorem k_38_6 : (Cond.selects RX6 yX6_next yX6_next) ∈ wAll := r38_sub _ (List.mem_of_getElem? (i := 6) rfl)
theorem k_38_7 : (Cond.code yX6_next cX6_next 3 (some .int)) ∈ wAll := r38_sub _ (List.mem_of_getElem? (i := 7) rfl)
theorem k_38_8 : (Cond.methodLink RX6 266 yJ6_bitCount_0f7a4) ∈ wAll := r38_sub _ (List.mem_of_getElem? (i := 8) rfl)
theorem k_38_9 : (Cond.static yJ6_bitCount_0f7a4) ∈ wAll := r38_sub _ (List.mem_of_getElem? (i := 9) rfl)
theorem k_38_10 : (Cond.initialized RJ6) ∈ wAll := r38_sub _ (List.mem_of_getElem? (i := 10) rfl)
theorem k_38_11 : (Cond.code yJ6_bitCount_0f7a4 cJ6_bitCount_0f7a4 1 (some .int)) ∈ wAll := r38_sub _ (List.mem_of_getElem? (i := 11) rfl)
theorem k_38_12 : (Cond.constant RJ6 265 (1431655765)) ∈ wAll := r38_sub _ (List.mem_of_getElem? (i := 12) rfl)
theorem k_38_13 : (Cond.constant RJ6 266 (858993459)) ∈ wAll := r38_sub _ (List.mem_of_getElem? (i := 13) rfl)
theorem k_38_14 : (Cond.constant RJ6 267 (252645135)) ∈ wAll := r38_sub _ (List.mem_of_getElem? (i := 14) rfl)
theorem k_38_15 : (Cond.methodLink RX6 271 yX4_placeMostApart) ∈ wAll := r38_sub _ (List.mem_of_getElem? (i := 15) rfl)
theorem k_38_16 : (Cond.instanceMethod yX4_placeMostApart) ∈ wAll := r38_sub _ (List.mem_of_getElem? (i := 16) rfl)
theorem k_38_17 : (Cond.selects RX4 yX4_placeMostApart yX4_placeMostApart) ∈ wAll := r38_sub _ (List.mem_of_getElem? (i := 17) rfl)
theorem k_38_18 : (Cond.code yX4_placeMostApart cX4_placeMostApart 4 (some .int)) ∈ wAll := r38_sub _ (List.mem_of_getElem? (i := 18) rfl)
theorem k_38_19 : (Cond.methodLink RX4 85 yX4_apartAt) ∈ wAll := r38_sub _ (List.mem_of_getElem? (i := 19) rfl)
theorem k_38_20 : (Cond.instanceMethod yX4_apartAt) ∈ wAll := r38_sub _ (List.mem_of_getElem? (i := 20) rfl)
theorem k_38_21 : (Cond.selects RX4 yX4_apartAt yX4_apartAt) ∈ wAll := r38_sub _ (List.mem_of_getElem? (i := 21) rfl)
theorem k_38_22 : (Cond.code yX4_apartAt cX4_apartAt 2 (some .int)) ∈ wAll := r38_sub _ (List.mem_of_getElem? (i := 22) rfl)
theorem k_38_23 : (Cond.methodLink RX6 274 yX4_apartAt) ∈ wAll := r38_sub _ (List.mem_of_getElem? (i := 23) rfl)
theorem r39_sub : ∀ w ∈ wsL_law_r39, w ∈ wAll := fun _ h => List.mem_append_left _ (List.mem_append_left _ (List.mem_append_left _ (List.mem_append_left _ (List.mem_append_left _ (List.mem_append_left _ (List.mem_append_left _ (List.mem_append_left _ (List.mem_append_left _ (List.mem_append_right _ (List.mem_append_right _ (List.mem_append_right _ (List.mem_append_right _ (List.mem_append_right _ (List.mem_append_right _ (List.mem_append_right _ (List.mem_append_right _ (List.mem_append_right _ (List.mem_append_right _ (List.mem_append_right _ (List.mem_append_right _ (List.mem_append_right _ (List.mem_append_right _ (List.mem_append_right _ (List.mem_append_right _ (List.mem_append_right _ (List.mem_append_right _ (List.mem_append_right _ (List.mem_append_right _ (List.mem_append_right _ (List.mem_append_right _ (List.mem_append_right _ (List.mem_append_right _ (List.mem_append_right _ (List.mem_append_right _ (List.mem_append_right _ (List.mem_append_right _ (List.mem_append_right _ (List.mem_append_right _ (List.mem_append_right _ (List.mem_append_right _ (List.mem_append_right _ (List.mem_append_right _ (List.mem_append_right _ (List.mem_append_right _ (List.mem_append_right _ (List.mem_append_right _ (List.mem_append_left _ h)))))))))))))))))))))))))))))))))))))))))))))))
theorem k_39_0 : (Cond.methodLink RL 123 yX7_next) ∈ wAll := r39_sub _ (List.mem_of_getElem? (i := 0) rfl)
theorem k_39_1 : (Cond.instanceMethod yX7_next) ∈ wAll := r39_sub _ (List.mem_of_getElem? (i := 1) rfl)
theorem k_39_2 : (Cond.selects RX7 yX7_next yX7_next) ∈ wAll := r39_sub _ (List.mem_of_getElem? (i := 2) rfl)
theorem k_39_3 : (Cond.code yX7_next cX7_next 6 (some .int)) ∈ wAll := r39_sub _ (List.mem_of_getElem? (i := 3) rfl)
theorem k_39_4 : (Cond.methodLink RL 124 yX6_work) ∈ wAll := r39_sub _ (List.mem_of_getElem? (i := 4) rfl)
theorem k_39_5 : (Cond.instanceMethod yX6_work) ∈ wAll := r39_sub _ (List.mem_of_getElem? (i := 5) rfl)
theorem k_39_6 : (Cond.selects RX6 yX6_work yX6_work) ∈ wAll := r39_sub _ (List.mem_of_getElem? (i := 6) rfl)
theorem k_39_7 : (Cond.code yX6_work cX6_work 7 (some .int)) ∈ wAll := r39_sub _ (List.mem_of_getElem? (i := 7) rfl)
theorem k_39_8 : (Cond.methodLink RX6 277 yX5_add) ∈ wAll := r39_sub _ (List.mem_of_getElem? (i := 8) rfl)
theorem k_39_9 : (Cond.instanceMethod yX5_add) ∈ wAll := r39_sub _ (List.mem_of_getElem? (i := 9) rfl)
theorem k_39_10 : (Cond.selects RX5 yX5_add yX5_add) ∈ wAll := r39_sub _ (List.mem_of_getElem? (i := 10) rfl)
theorem k_39_11 : (Cond.code yX5_add cX5_add 5 (some .int)) ∈ wAll := r39_sub _ (List.mem_of_getElem? (i := 11) rfl)
theorem k_39_12 : (Cond.methodLink RL 128 yX7_work) ∈ wAll := r39_sub _ (List.mem_of_getElem? (i := 12) rfl)
theorem k_39_13 : (Cond.instanceMethod yX7_work) ∈ wAll := r39_sub _ (List.mem_of_getElem? (i := 13) rfl)
theorem k_39_14 : (Cond.selects RX7 yX7_work yX7_work) ∈ wAll := r39_sub _ (List.mem_of_getElem? (i := 14) rfl)
theorem k_39_15 : (Cond.code yX7_work cX7_work 7 (some .int)) ∈ wAll := r39_sub _ (List.mem_of_getElem? (i := 15) rfl)
theorem k_39_16 : (Cond.fieldLink RX7 251 "EarthBanksModel" "works" "I") ∈ wAll := r39_sub _ (List.mem_of_getElem? (i := 16) rfl)
theorem k_39_17 : (Cond.methodLink RL 129 yX6_cheapest) ∈ wAll := r39_sub _ (List.mem_of_getElem? (i := 17) rfl)
theorem k_39_18 : (Cond.instanceMethod yX6_cheapest) ∈ wAll := r39_sub _ (List.mem_of_getElem? (i := 18) rfl)
theorem k_39_19 : (Cond.selects RX6 yX6_cheapest yX6_cheapest) ∈ wAll := r39_sub _ (List.mem_of_getElem? (i := 19) rfl)
theorem k_39_20 : (Cond.code yX6_cheapest cX6_cheapest 8 (some .int)) ∈ wAll := r39_sub _ (List.mem_of_getElem? (i := 20) rfl)
theorem k_39_21 : (Cond.fieldLink RX6 281 "EarthBanks$Works" "size" "I") ∈ wAll := r39_sub _ (List.mem_of_getElem? (i := 21) rfl)
theorem k_39_22 : (Cond.methodLink RX6 284 yX5_priceOf) ∈ wAll := r39_sub _ (List.mem_of_getElem? (i := 22) rfl)
theorem k_39_23 : (Cond.instanceMethod yX5_priceOf) ∈ wAll := r39_sub _ (List.mem_of_getElem? (i := 23) rfl)
theorem r40_sub : ∀ w ∈ wsL_law_r40, w ∈ wAll := fun _ h => List.mem_append_left _ (List.mem_append_left _ (List.mem_append_left _ (List.mem_append_left _ (List.mem_append_left _ (List.mem_append_left _ (List.mem_append_left _ (List.mem_append_left _ (List.mem_append_left _ (List.mem_append_right _ (List.mem_append_right _ (List.mem_append_right _ (List.mem_append_right _ (List.mem_append_right _ (List.mem_append_right _ (List.mem_append_right _ (List.mem_append_right _ (List.mem_append_right _ (List.mem_append_right _ (List.mem_append_right _ (List.mem_append_right _ (List.mem_append_right _ (List.mem_append_right _ (List.mem_append_right _ (List.mem_append_right _ (List.mem_append_right _ (List.mem_append_right _ (List.mem_append_right _ (List.mem_append_right _ (List.mem_append_right _ (List.mem_append_right _ (List.mem_append_right _ (List.mem_append_right _ (List.mem_append_right _ (List.mem_append_right _ (List.mem_append_right _ (List.mem_append_right _ (List.mem_append_right _ (List.mem_append_right _ (List.mem_append_right _ (List.mem_append_right _ (List.mem_append_right _ (List.mem_append_right _ (List.mem_append_right _ (List.mem_append_right _ (List.mem_append_right _ (List.mem_append_right _ (List.mem_append_right _ (List.mem_append_left _ h))))))))))))))))))))))))))))))))))))))))))))))))
theorem k_40_0 : (Cond.selects RX5 yX5_priceOf yX5_priceOf) ∈ wAll := r40_sub _ (List.mem_of_getElem? (i := 0) rfl)
theorem k_40_1 : (Cond.code yX5_priceOf cX5_priceOf 4 (some .int)) ∈ wAll := r40_sub _ (List.mem_of_getElem? (i := 1) rfl)
theorem k_40_2 : (Cond.methodLink RX6 287 yX3_allReach) ∈ wAll := r40_sub _ (List.mem_of_getElem? (i := 2) rfl)
theorem k_40_3 : (Cond.instanceMethod yX3_allReach) ∈ wAll := r40_sub _ (List.mem_of_getElem? (i := 3) rfl)
theorem k_40_4 : (Cond.selects RX3 yX3_allReach yX3_allReach) ∈ wAll := r40_sub _ (List.mem_of_getElem? (i := 4) rfl)
theorem k_40_5 : (Cond.code yX3_allReach cX3_allReach 7 (some .boolean)) ∈ wAll := r40_sub _ (List.mem_of_getElem? (i := 5) rfl)
theorem k_40_6 : (Cond.constant RX3 99 (1000000000)) ∈ wAll := r40_sub _ (List.mem_of_getElem? (i := 6) rfl)
theorem k_40_7 : (Cond.methodLink RX3 96 yX3_leastBehind) ∈ wAll := r40_sub _ (List.mem_of_getElem? (i := 7) rfl)
theorem k_40_8 : (Cond.instanceMethod yX3_leastBehind) ∈ wAll := r40_sub _ (List.mem_of_getElem? (i := 8) rfl)
theorem k_40_9 : (Cond.selects RX3 yX3_leastBehind yX3_leastBehind) ∈ wAll := r40_sub _ (List.mem_of_getElem? (i := 9) rfl)
theorem k_40_10 : (Cond.code yX3_leastBehind cX3_leastBehind 6 (some .int)) ∈ wAll := r40_sub _ (List.mem_of_getElem? (i := 10) rfl)
theorem k_40_11 : (Cond.methodLink RL 132 yX7_cheapest) ∈ wAll := r40_sub _ (List.mem_of_getElem? (i := 11) rfl)
theorem k_40_12 : (Cond.instanceMethod yX7_cheapest) ∈ wAll := r40_sub _ (List.mem_of_getElem? (i := 12) rfl)
theorem k_40_13 : (Cond.selects RX7 yX7_cheapest yX7_cheapest) ∈ wAll := r40_sub _ (List.mem_of_getElem? (i := 13) rfl)
theorem k_40_14 : (Cond.code yX7_cheapest cX7_cheapest 9 (some .int)) ∈ wAll := r40_sub _ (List.mem_of_getElem? (i := 14) rfl)
theorem k_40_15 : (Cond.methodLink RL 133 yX6_keep) ∈ wAll := r40_sub _ (List.mem_of_getElem? (i := 15) rfl)
theorem k_40_16 : (Cond.instanceMethod yX6_keep) ∈ wAll := r40_sub _ (List.mem_of_getElem? (i := 16) rfl)
theorem k_40_17 : (Cond.selects RX6 yX6_keep yX6_keep) ∈ wAll := r40_sub _ (List.mem_of_getElem? (i := 17) rfl)
theorem k_40_18 : (Cond.code yX6_keep cX6_keep 2 (some .int)) ∈ wAll := r40_sub _ (List.mem_of_getElem? (i := 18) rfl)
theorem k_40_19 : (Cond.methodLink RX6 290 yX6_imageOf) ∈ wAll := r40_sub _ (List.mem_of_getElem? (i := 19) rfl)
theorem k_40_20 : (Cond.instanceMethod yX6_imageOf) ∈ wAll := r40_sub _ (List.mem_of_getElem? (i := 20) rfl)
theorem k_40_21 : (Cond.selects RX6 yX6_imageOf yX6_imageOf) ∈ wAll := r40_sub _ (List.mem_of_getElem? (i := 21) rfl)
theorem k_40_22 : (Cond.code yX6_imageOf cX6_imageOf 2 (some (.object "EarthBanks$Slice"))) ∈ wAll := r40_sub _ (List.mem_of_getElem? (i := 22) rfl)
theorem k_40_23 : (Cond.methodLink RL 136 yX7_keep) ∈ wAll := r40_sub _ (List.mem_of_getElem? (i := 23) rfl)
theorem r41_sub : ∀ w ∈ wsL_law_r41, w ∈ wAll := fun _ h => List.mem_append_left _ (List.mem_append_left _ (List.mem_append_left _ (List.mem_append_left _ (List.mem_append_left _ (List.mem_append_left _ (List.mem_append_left _ (List.mem_append_left _ (List.mem_append_left _ (List.mem_append_right _ (List.mem_append_right _ (List.mem_append_right _ (List.mem_append_right _ (List.mem_append_right _ (List.mem_append_right _ (List.mem_append_right _ (List.mem_append_right _ (List.mem_append_right _ (List.mem_append_right _ (List.mem_append_right _ (List.mem_append_right _ (List.mem_append_right _ (List.mem_append_right _ (List.mem_append_right _ (List.mem_append_right _ (List.mem_append_right _ (List.mem_append_right _ (List.mem_append_right _ (List.mem_append_right _ (List.mem_append_right _ (List.mem_append_right _ (List.mem_append_right _ (List.mem_append_right _ (List.mem_append_right _ (List.mem_append_right _ (List.mem_append_right _ (List.mem_append_right _ (List.mem_append_right _ (List.mem_append_right _ (List.mem_append_right _ (List.mem_append_right _ (List.mem_append_right _ (List.mem_append_right _ (List.mem_append_right _ (List.mem_append_right _ (List.mem_append_right _ (List.mem_append_right _ (List.mem_append_right _ (List.mem_append_right _ (List.mem_append_left _ h)))))))))))))))))))))))))))))))))))))))))))))))))
theorem k_41_0 : (Cond.instanceMethod yX7_keep) ∈ wAll := r41_sub _ (List.mem_of_getElem? (i := 0) rfl)
theorem k_41_1 : (Cond.selects RX7 yX7_keep yX7_keep) ∈ wAll := r41_sub _ (List.mem_of_getElem? (i := 1) rfl)
theorem k_41_2 : (Cond.code yX7_keep cX7_keep 3 (some .int)) ∈ wAll := r41_sub _ (List.mem_of_getElem? (i := 2) rfl)
theorem k_41_3 : (Cond.methodLink RL 137 yX6_back) ∈ wAll := r41_sub _ (List.mem_of_getElem? (i := 3) rfl)
theorem k_41_4 : (Cond.instanceMethod yX6_back) ∈ wAll := r41_sub _ (List.mem_of_getElem? (i := 4) rfl)
theorem k_41_5 : (Cond.selects RX6 yX6_back yX6_back) ∈ wAll := r41_sub _ (List.mem_of_getElem? (i := 5) rfl)
theorem k_41_6 : (Cond.code yX6_back cX6_back 2 (some .int)) ∈ wAll := r41_sub _ (List.mem_of_getElem? (i := 6) rfl)
theorem k_41_7 : (Cond.methodLink RL 140 yX7_back) ∈ wAll := r41_sub _ (List.mem_of_getElem? (i := 7) rfl)
theorem k_41_8 : (Cond.instanceMethod yX7_back) ∈ wAll := r41_sub _ (List.mem_of_getElem? (i := 8) rfl)
theorem k_41_9 : (Cond.selects RX7 yX7_back yX7_back) ∈ wAll := r41_sub _ (List.mem_of_getElem? (i := 9) rfl)
theorem k_41_10 : (Cond.code yX7_back cX7_back 3 (some .int)) ∈ wAll := r41_sub _ (List.mem_of_getElem? (i := 10) rfl)
theorem k_41_11 : (Cond.methodLink RL 141 yX6_count) ∈ wAll := r41_sub _ (List.mem_of_getElem? (i := 11) rfl)
theorem k_41_12 : (Cond.instanceMethod yX6_count) ∈ wAll := r41_sub _ (List.mem_of_getElem? (i := 12) rfl)
theorem k_41_13 : (Cond.selects RX6 yX6_count yX6_count) ∈ wAll := r41_sub _ (List.mem_of_getElem? (i := 13) rfl)
theorem k_41_14 : (Cond.code yX6_count cX6_count 2 (some .int)) ∈ wAll := r41_sub _ (List.mem_of_getElem? (i := 14) rfl)
theorem k_41_15 : (Cond.fieldLink RX6 297 "EarthBanks$Watch" "gauges" "I") ∈ wAll := r41_sub _ (List.mem_of_getElem? (i := 15) rfl)
theorem k_41_16 : (Cond.fieldLink RX6 300 "EarthBanks$Watch" "causes" "I") ∈ wAll := r41_sub _ (List.mem_of_getElem? (i := 16) rfl)
theorem k_41_17 : (Cond.methodLink RX6 294 yX2_goneCells) ∈ wAll := r41_sub _ (List.mem_of_getElem? (i := 17) rfl)
theorem k_41_18 : (Cond.instanceMethod yX2_goneCells) ∈ wAll := r41_sub _ (List.mem_of_getElem? (i := 18) rfl)
theorem k_41_19 : (Cond.selects RX2 yX2_goneCells yX2_goneCells) ∈ wAll := r41_sub _ (List.mem_of_getElem? (i := 19) rfl)
theorem k_41_20 : (Cond.code yX2_goneCells cX2_goneCells 3 (some .int)) ∈ wAll := r41_sub _ (List.mem_of_getElem? (i := 20) rfl)
theorem k_41_21 : (Cond.methodLink RL 144 yX7_count) ∈ wAll := r41_sub _ (List.mem_of_getElem? (i := 21) rfl)
theorem k_41_22 : (Cond.instanceMethod yX7_count) ∈ wAll := r41_sub _ (List.mem_of_getElem? (i := 22) rfl)
theorem k_41_23 : (Cond.selects RX7 yX7_count yX7_count) ∈ wAll := r41_sub _ (List.mem_of_getElem? (i := 23) rfl)
theorem r42_sub : ∀ w ∈ wsL_law_r42, w ∈ wAll := fun _ h => List.mem_append_left _ (List.mem_append_left _ (List.mem_append_left _ (List.mem_append_left _ (List.mem_append_left _ (List.mem_append_left _ (List.mem_append_left _ (List.mem_append_left _ (List.mem_append_left _ (List.mem_append_right _ (List.mem_append_right _ (List.mem_append_right _ (List.mem_append_right _ (List.mem_append_right _ (List.mem_append_right _ (List.mem_append_right _ (List.mem_append_right _ (List.mem_append_right _ (List.mem_append_right _ (List.mem_append_right _ (List.mem_append_right _ (List.mem_append_right _ (List.mem_append_right _ (List.mem_append_right _ (List.mem_append_right _ (List.mem_append_right _ (List.mem_append_right _ (List.mem_append_right _ (List.mem_append_right _ (List.mem_append_right _ (List.mem_append_right _ (List.mem_append_right _ (List.mem_append_right _ (List.mem_append_right _ (List.mem_append_right _ (List.mem_append_right _ (List.mem_append_right _ (List.mem_append_right _ (List.mem_append_right _ (List.mem_append_right _ (List.mem_append_right _ (List.mem_append_right _ (List.mem_append_right _ (List.mem_append_right _ (List.mem_append_right _ (List.mem_append_right _ (List.mem_append_right _ (List.mem_append_right _ (List.mem_append_right _ (List.mem_append_right _ (h))))))))))))))))))))))))))))))))))))))))))))))))))
theorem k_42_0 : (Cond.code yX7_count cX7_count 4 (some .int)) ∈ wAll := r42_sub _ (List.mem_of_getElem? (i := 0) rfl)
theorem k_42_1 : (Cond.methodLink RL 145 yX6_trace) ∈ wAll := r42_sub _ (List.mem_of_getElem? (i := 1) rfl)
theorem k_42_2 : (Cond.instanceMethod yX6_trace) ∈ wAll := r42_sub _ (List.mem_of_getElem? (i := 2) rfl)
theorem k_42_3 : (Cond.selects RX6 yX6_trace yX6_trace) ∈ wAll := r42_sub _ (List.mem_of_getElem? (i := 3) rfl)
theorem k_42_4 : (Cond.code yX6_trace cX6_trace 1 (some .long)) ∈ wAll := r42_sub _ (List.mem_of_getElem? (i := 4) rfl)
theorem k_42_5 : (Cond.methodLink RL 149 yX7_trace) ∈ wAll := r42_sub _ (List.mem_of_getElem? (i := 5) rfl)
theorem k_42_6 : (Cond.instanceMethod yX7_trace) ∈ wAll := r42_sub _ (List.mem_of_getElem? (i := 6) rfl)
theorem k_42_7 : (Cond.selects RX7 yX7_trace yX7_trace) ∈ wAll := r42_sub _ (List.mem_of_getElem? (i := 7) rfl)
theorem k_42_8 : (Cond.code yX7_trace cX7_trace 1 (some .long)) ∈ wAll := r42_sub _ (List.mem_of_getElem? (i := 8) rfl)
theorem r1_good : wsL_law_r1.all goodWord = true := by decide +kernel
theorem r2_good : wsL_law_r2.all goodWord = true := by decide +kernel
theorem r3_good : wsL_law_r3.all goodWord = true := by decide +kernel
theorem r4_good : wsL_law_r4.all goodWord = true := by decide +kernel
theorem r5_good : wsL_law_r5.all goodWord = true := by decide +kernel
theorem r6_good : wsL_law_r6.all goodWord = true := by decide +kernel
theorem r7_good : wsL_law_r7.all goodWord = true := by decide +kernel
theorem r8_good : wsL_law_r8.all goodWord = true := by decide +kernel
theorem r9_good : wsL_law_r9.all goodWord = true := by decide +kernel
theorem r10_good : wsL_law_r10.all goodWord = true := by decide +kernel
theorem r11_good : wsL_law_r11.all goodWord = true := by decide +kernel
theorem r12_good : wsL_law_r12.all goodWord = true := by decide +kernel
theorem r13_good : wsL_law_r13.all goodWord = true := by decide +kernel
theorem r14_good : wsL_law_r14.all goodWord = true := by decide +kernel
theorem r15_good : wsL_law_r15.all goodWord = true := by decide +kernel
theorem r16_good : wsL_law_r16.all goodWord = true := by decide +kernel
theorem r17_good : wsL_law_r17.all goodWord = true := by decide +kernel
theorem r18_good : wsL_law_r18.all goodWord = true := by decide +kernel
theorem r19_good : wsL_law_r19.all goodWord = true := by decide +kernel
theorem r20_good : wsL_law_r20.all goodWord = true := by decide +kernel
theorem r21_good : wsL_law_r21.all goodWord = true := by decide +kernel
theorem r22_good : wsL_law_r22.all goodWord = true := by decide +kernel
theorem r23_good : wsL_law_r23.all goodWord = true := by decide +kernel
theorem r24_good : wsL_law_r24.all goodWord = true := by decide +kernel
theorem r25_good : wsL_law_r25.all goodWord = true := by decide +kernel
theorem r26_good : wsL_law_r26.all goodWord = true := by decide +kernel
theorem r27_good : wsL_law_r27.all goodWord = true := by decide +kernel
theorem r28_good : wsL_law_r28.all goodWord = true := by decide +kernel
theorem r29_good : wsL_law_r29.all goodWord = true := by decide +kernel
theorem r30_good : wsL_law_r30.all goodWord = true := by decide +kernel
theorem r31_good : wsL_law_r31.all goodWord = true := by decide +kernel
theorem r32_good : wsL_law_r32.all goodWord = true := by decide +kernel
theorem r33_good : wsL_law_r33.all goodWord = true := by decide +kernel
theorem r34_good : wsL_law_r34.all goodWord = true := by decide +kernel
theorem r35_good : wsL_law_r35.all goodWord = true := by decide +kernel
theorem r36_good : wsL_law_r36.all goodWord = true := by decide +kernel
theorem r37_good : wsL_law_r37.all goodWord = true := by decide +kernel
theorem r38_good : wsL_law_r38.all goodWord = true := by decide +kernel
theorem r39_good : wsL_law_r39.all goodWord = true := by decide +kernel
theorem r40_good : wsL_law_r40.all goodWord = true := by decide +kernel
theorem r41_good : wsL_law_r41.all goodWord = true := by decide +kernel
theorem r42_good : wsL_law_r42.all goodWord = true := by decide +kernel
theorem wsX60_good : wsX60.all goodWord = true := by decide +kernel
theorem wsX70_good : wsX70.all goodWord = true := by decide +kernel
theorem wsX00_good : wsX00.all goodWord = true := by decide +kernel
theorem wsX20_good : wsX20.all goodWord = true := by decide +kernel
theorem wsX50_good : wsX50.all goodWord = true := by decide +kernel
theorem wsX30_good : wsX30.all goodWord = true := by decide +kernel
theorem wsX10_good : wsX10.all goodWord = true := by decide +kernel
theorem wsX40_good : wsX40.all goodWord = true := by decide +kernel
theorem all_app {a b : List Cond} (h : a.all goodWord = true) (h2 : b.all goodWord = true) : (a ++ b).all goodWord = true := by rw [List.all_append, h, h2]; rfl
theorem wAll_good : wAll.all goodWord = true := all_app (all_app (all_app (all_app (all_app (all_app (all_app (all_app (all_app (all_app r1_good (all_app r2_good (all_app r3_good (all_app r4_good (all_app r5_good (all_app r6_good (all_app r7_good (all_app r8_good (all_app r9_good (all_app r10_good (all_app r11_good (all_app r12_good (all_app r13_good (all_app r14_good (all_app r15_good (all_app r16_good (all_app r17_good (all_app r18_good (all_app r19_good (all_app r20_good (all_app r21_good (all_app r22_good (all_app r23_good (all_app r24_good (all_app r25_good (all_app r26_good (all_app r27_good (all_app r28_good (all_app r29_good (all_app r30_good (all_app r31_good (all_app r32_good (all_app r33_good (all_app r34_good (all_app r35_good (all_app r36_good (all_app r37_good (all_app r38_good (all_app r39_good (all_app r40_good (all_app r41_good (r42_good)))))))))))))))))))))))))))))))))))))))))) wsX60_good) wsX70_good) wsX00_good) wsX20_good) wsX50_good) wsX30_good) wsX10_good) wsX40_good) rfl
