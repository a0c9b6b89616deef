/-! ===== BEGIN words of one list among another's, by their places ===== -/
theorem goodIn_r {big : List Cond} (ws : List Cond) (ps : List Nat) (hp : ws = ps.filterMap (fun i => big[i]?)) (h : ws.all goodWord = true) : GoodIn big ws := by
  intro w hw
  have h1 := List.all_eq_true.mp h w hw
  rw [hp] at hw
  obtain ⟨i, -, hi⟩ := List.mem_filterMap.mp hw
  have hm : w ∈ big := by first | exact List.mem_of_getElem? hi | exact List.getElem?_mem hi
  exact ⟨hm, good_of_word h1⟩
theorem goodIn_app {big a b : List Cond} (ha : GoodIn big a) (hb : GoodIn big b) : GoodIn big (a ++ b) := fun w h => (List.mem_append.mp h).elim (ha w) (hb w)
theorem goodIn_ca {big a b : List Cond} {c : Cond} (ha : GoodIn big (c :: a)) (hb : GoodIn big b) : GoodIn big (c :: (a ++ b)) := fun w h => (List.mem_cons.mp h).elim (fun e => ha w (List.mem_cons.mpr (Or.inl e))) (fun h => (List.mem_append.mp h).elim (fun h => ha w (List.mem_cons.mpr (Or.inr h))) (hb w))
theorem goodIn_sub {big ws : List Cond} (hm : ∀ w ∈ ws, w ∈ big) (h : ws.all goodWord = true) : GoodIn big ws := fun w hw => ⟨hm w hw, good_of_word (List.all_eq_true.mp h w hw)⟩
/-! ===== END ===== -/

/-! ===== BEGIN printed: names, fields, word lists, decode rows ===== -/
def RX0 : String := "StandingArch$Arch"
def TX0 : u_T := fun k => match k with
  | 0 => ("StandingArch$Arch", "last", "I", false)
  | 1 => ("StandingArch$Arch", "place", "[I", true)
  | 2 => ("StandingArch$Arch", "low", "[I", true)
  | 3 => ("StandingArch$Arch", "high", "[I", true)
  | 4 => ("StandingArch$Arch", "weight", "[I", true)
  | _ => ("StandingArch$Arch", "moment", "[I", true)
def tyX0 : Nat → FieldType := fun k => match k with
  | 0 => .int
  | 1 => .array .int
  | 2 => .array .int
  | 3 => .array .int
  | 4 => .array .int
  | _ => .array .int
abbrev wsX00 : List Cond := u_ws RX0 TX0 6
theorem nmX0 : ∀ a, a < 6 → ∀ b, b < 6 → a ≠ b → (TX0 a).2.1 ≠ (TX0 b).2.1 := by decide +kernel
theorem tyX0_ok : ∀ k, k < 6 → parseFieldDescriptor (TX0 k).2.2.1 = some (tyX0 k) := by decide +kernel
abbrev cX0_init : ByteArray := prog_2_method_1_code
def yX0_init : MethodName := ⟨RX0, "<init>", "()V"⟩
abbrev cX0_renew : ByteArray := prog_2_method_2_code
def yX0_renew : MethodName := ⟨RX0, "renew", "(I)V"⟩
abbrev cX0_span : ByteArray := prog_2_method_3_code
def yX0_span : MethodName := ⟨RX0, "span", "()I"⟩
abbrev cX0_hasJoint : ByteArray := prog_2_method_4_code
def yX0_hasJoint : MethodName := ⟨RX0, "hasJoint", "(I)Z"⟩
abbrev cX0_hasInnerJoint : ByteArray := prog_2_method_5_code
def yX0_hasInnerJoint : MethodName := ⟨RX0, "hasInnerJoint", "(I)Z"⟩
abbrev cX0_mayTake : ByteArray := prog_2_method_6_code
def yX0_mayTake : MethodName := ⟨RX0, "mayTake", "([II)Z"⟩
abbrev cX0_take : ByteArray := prog_2_method_7_code
def yX0_take : MethodName := ⟨RX0, "take", "([II)V"⟩
abbrev cX0_weigh : ByteArray := prog_2_method_8_code
def yX0_weigh : MethodName := ⟨RX0, "weigh", "([I)V"⟩
abbrev cX0_rise : ByteArray := prog_2_method_9_code
def yX0_rise : MethodName := ⟨RX0, "rise", "([I[IIII)J"⟩
abbrev cX0_bend : ByteArray := prog_2_method_10_code
def yX0_bend : MethodName := ⟨RX0, "bend", "(III)J"⟩
def RX1 : String := "StandingArch$Bars"
def TX1 : u_T := fun k => match k with
  | 0 => ("StandingArch$Bars", "arch", "LStandingArch$Arch;", true)
  | 1 => ("StandingArch$Bars", "count", "I", false)
  | _ => ("StandingArch$Bars", "chosen", "[I", true)
def tyX1 : Nat → FieldType := fun k => match k with
  | 0 => .object "StandingArch$Arch"
  | 1 => .int
  | _ => .array .int
abbrev wsX10 : List Cond := u_ws RX1 TX1 3
theorem nmX1 : ∀ a, a < 3 → ∀ b, b < 3 → a ≠ b → (TX1 a).2.1 ≠ (TX1 b).2.1 := by decide +kernel
theorem tyX1_ok : ∀ k, k < 3 → parseFieldDescriptor (TX1 k).2.2.1 = some (tyX1 k) := by decide +kernel
abbrev cX1_init : ByteArray := prog_3_method_1_code
def yX1_init : MethodName := ⟨RX1, "<init>", "(LStandingArch$Arch;)V"⟩
abbrev cX1_find : ByteArray := prog_3_method_2_code
def yX1_find : MethodName := ⟨RX1, "find", "()V"⟩
abbrev cX1_findFirst : ByteArray := prog_3_method_3_code
def yX1_findFirst : MethodName := ⟨RX1, "findFirst", "(I)Z"⟩
abbrev cX1_barsThree : ByteArray := prog_3_method_4_code
def yX1_barsThree : MethodName := ⟨RX1, "barsThree", "(IIII)Z"⟩
abbrev cX1_barsFour : ByteArray := prog_3_method_5_code
def yX1_barsFour : MethodName := ⟨RX1, "barsFour", "(IIII)Z"⟩
abbrev cX1_keep : ByteArray := prog_3_method_6_code
def yX1_keep : MethodName := ⟨RX1, "keep", "(IIII)V"⟩
abbrev cX1_isBeyondChord : ByteArray := prog_3_method_7_code
def yX1_isBeyondChord : MethodName := ⟨RX1, "isBeyondChord", "(IIII)Z"⟩
abbrev cX1_isCrossed : ByteArray := prog_3_method_8_code
def yX1_isCrossed : MethodName := ⟨RX1, "isCrossed", "(IIIII)Z"⟩
def RX2 : String := "StandingArch$Fraction"
def TX2 : u_T := fun k => match k with
  | 0 => ("StandingArch$Fraction", "above", "J", false)
  | _ => ("StandingArch$Fraction", "below", "J", false)
def tyX2 : Nat → FieldType := fun k => match k with
  | 0 => .long
  | _ => .long
abbrev wsX20 : List Cond := u_ws RX2 TX2 2
theorem nmX2 : ∀ a, a < 2 → ∀ b, b < 2 → a ≠ b → (TX2 a).2.1 ≠ (TX2 b).2.1 := by decide +kernel
theorem tyX2_ok : ∀ k, k < 2 → parseFieldDescriptor (TX2 k).2.2.1 = some (tyX2 k) := by decide +kernel
abbrev cX2_init : ByteArray := prog_4_method_1_code
def yX2_init : MethodName := ⟨RX2, "<init>", "()V"⟩
abbrev cX2_become : ByteArray := prog_4_method_2_code
def yX2_become : MethodName := ⟨RX2, "become", "(JJ)V"⟩
abbrev cX2_isAbove : ByteArray := prog_4_method_3_code
def yX2_isAbove : MethodName := ⟨RX2, "isAbove", "(LStandingArch$Fraction;)Z"⟩
abbrev cX2_part : ByteArray := prog_4_method_4_code
def yX2_part : MethodName := ⟨RX2, "part", "(I)J"⟩
abbrev cX2_commonDivisor : ByteArray := prog_4_method_5_code
def yX2_commonDivisor : MethodName := ⟨RX2, "commonDivisor", "(JJ)J"⟩
def RX3 : String := "StandingArch$LeastLine"
def TX3 : u_T := fun k => match k with
  | 0 => ("StandingArch$LeastLine", "arch", "LStandingArch$Arch;", true)
  | 1 => ("StandingArch$LeastLine", "pushAbove", "J", false)
  | 2 => ("StandingArch$LeastLine", "pushBelow", "J", false)
  | 3 => ("StandingArch$LeastLine", "startAbove", "J", false)
  | 4 => ("StandingArch$LeastLine", "startBelow", "J", false)
  | 5 => ("StandingArch$LeastLine", "slopeAbove", "J", false)
  | _ => ("StandingArch$LeastLine", "slopeBelow", "J", false)
def tyX3 : Nat → FieldType := fun k => match k with
  | 0 => .object "StandingArch$Arch"
  | 1 => .long
  | 2 => .long
  | 3 => .long
  | 4 => .long
  | 5 => .long
  | _ => .long
abbrev wsX30 : List Cond := u_ws RX3 TX3 7
theorem nmX3 : ∀ a, a < 7 → ∀ b, b < 7 → a ≠ b → (TX3 a).2.1 ≠ (TX3 b).2.1 := by decide +kernel
theorem tyX3_ok : ∀ k, k < 7 → parseFieldDescriptor (TX3 k).2.2.1 = some (tyX3 k) := by decide +kernel
abbrev cX3_init : ByteArray := prog_5_method_1_code
def yX3_init : MethodName := ⟨RX3, "<init>", "(LStandingArch$Arch;)V"⟩
abbrev cX3_lay : ByteArray := prog_5_method_2_code
def yX3_lay : MethodName := ⟨RX3, "lay", "(LStandingArch$Fraction;)V"⟩
abbrev cX3_findLeastStart : ByteArray := prog_5_method_3_code
def yX3_findLeastStart : MethodName := ⟨RX3, "findLeastStart", "()V"⟩
abbrev cX3_findLeastSlope : ByteArray := prog_5_method_4_code
def yX3_findLeastSlope : MethodName := ⟨RX3, "findLeastSlope", "()V"⟩
abbrev cX3_heightInto : ByteArray := prog_5_method_5_code
def yX3_heightInto : MethodName := ⟨RX3, "heightInto", "(LStandingArch$Fraction;I)V"⟩
abbrev cX3_straightLow : ByteArray := prog_5_method_6_code
def yX3_straightLow : MethodName := ⟨RX3, "straightLow", "(I)J"⟩
abbrev cX3_straightHigh : ByteArray := prog_5_method_7_code
def yX3_straightHigh : MethodName := ⟨RX3, "straightHigh", "(I)J"⟩
def RX4 : String := "StandingArch$Sheet"
def TX4 : u_T := fun k => match k with
  | 0 => ("StandingArch$Sheet", "held", "Z", false)
  | 1 => ("StandingArch$Sheet", "lane", "I", false)
  | 2 => ("StandingArch$Sheet", "size", "I", false)
  | _ => ("StandingArch$Sheet", "items", "[I", true)
def tyX4 : Nat → FieldType := fun k => match k with
  | 0 => .boolean
  | 1 => .int
  | 2 => .int
  | _ => .array .int
abbrev wsX40 : List Cond := u_ws RX4 TX4 4
theorem nmX4 : ∀ a, a < 4 → ∀ b, b < 4 → a ≠ b → (TX4 a).2.1 ≠ (TX4 b).2.1 := by decide +kernel
theorem tyX4_ok : ∀ k, k < 4 → parseFieldDescriptor (TX4 k).2.2.1 = some (tyX4 k) := by decide +kernel
abbrev cX4_init : ByteArray := prog_6_method_1_code
def yX4_init : MethodName := ⟨RX4, "<init>", "()V"⟩
abbrev cX4_hold : ByteArray := prog_6_method_2_code
def yX4_hold : MethodName := ⟨RX4, "hold", "(II)V"⟩
def RX5 : String := "StandingArch$Triples"
def TX5 : u_T := fun k => match k with
  | 0 => ("StandingArch$Triples", "arch", "LStandingArch$Arch;", true)
  | 1 => ("StandingArch$Triples", "count", "I", false)
  | 2 => ("StandingArch$Triples", "middle", "[J", true)
  | 3 => ("StandingArch$Triples", "room", "[J", true)
  | _ => ("StandingArch$Triples", "bend", "[J", true)
def tyX5 : Nat → FieldType := fun k => match k with
  | 0 => .object "StandingArch$Arch"
  | 1 => .int
  | 2 => .array .long
  | 3 => .array .long
  | _ => .array .long
abbrev wsX50 : List Cond := u_ws RX5 TX5 5
theorem nmX5 : ∀ a, a < 5 → ∀ b, b < 5 → a ≠ b → (TX5 a).2.1 ≠ (TX5 b).2.1 := by decide +kernel
theorem tyX5_ok : ∀ k, k < 5 → parseFieldDescriptor (TX5 k).2.2.1 = some (tyX5 k) := by decide +kernel
abbrev cX5_init : ByteArray := prog_7_method_1_code
def yX5_init : MethodName := ⟨RX5, "<init>", "(LStandingArch$Arch;)V"⟩
abbrev cX5_gather : ByteArray := prog_7_method_2_code
def yX5_gather : MethodName := ⟨RX5, "gather", "([I)V"⟩
abbrev cX5_hold : ByteArray := prog_7_method_3_code
def yX5_hold : MethodName := ⟨RX5, "hold", "()Z"⟩
abbrev cX5_greatestPush : ByteArray := prog_7_method_4_code
def yX5_greatestPush : MethodName := ⟨RX5, "greatestPush", "(LStandingArch$Fraction;)Z"⟩
abbrev cX5_leastPush : ByteArray := prog_7_method_5_code
def yX5_leastPush : MethodName := ⟨RX5, "leastPush", "(LStandingArch$Fraction;)Z"⟩
abbrev cX5_leastFactor : ByteArray := prog_7_method_6_code
def yX5_leastFactor : MethodName := ⟨RX5, "leastFactor", "(LStandingArch$Fraction;)Z"⟩
abbrev cX5_straightFactor : ByteArray := prog_7_method_7_code
def yX5_straightFactor : MethodName := ⟨RX5, "straightFactor", "(LStandingArch$Fraction;)Z"⟩
abbrev cX5_least : ByteArray := prog_7_method_8_code
def yX5_least : MethodName := ⟨RX5, "least", "(IJJ)J"⟩
abbrev cX5_most : ByteArray := prog_7_method_9_code
def yX5_most : MethodName := ⟨RX5, "most", "(IJJ)J"⟩
abbrev cX5_tightestLeast : ByteArray := prog_7_method_10_code
def yX5_tightestLeast : MethodName := ⟨RX5, "tightestLeast", "(JJ)I"⟩
abbrev cX5_tightestMost : ByteArray := prog_7_method_11_code
def yX5_tightestMost : MethodName := ⟨RX5, "tightestMost", "(JJ)I"⟩
abbrev cX5_bars : ByteArray := prog_7_method_12_code
def yX5_bars : MethodName := ⟨RX5, "bars", "(IIJJ)Z"⟩
def RX6 : String := "StandingArch"
def TX6 : u_T := fun k => match k with
  | 0 => ("StandingArch", "arch", "LStandingArch$Arch;", true)
  | 1 => ("StandingArch", "triples", "LStandingArch$Triples;", true)
  | 2 => ("StandingArch", "leastLine", "LStandingArch$LeastLine;", true)
  | 3 => ("StandingArch", "bars", "LStandingArch$Bars;", true)
  | 4 => ("StandingArch", "sheets", "[LStandingArch$Sheet;", true)
  | 5 => ("StandingArch", "trial", "[I", true)
  | 6 => ("StandingArch", "answer", "LStandingArch$Fraction;", true)
  | _ => ("StandingArch", "worst", "LStandingArch$Fraction;", true)
def tyX6 : Nat → FieldType := fun k => match k with
  | 0 => .object "StandingArch$Arch"
  | 1 => .object "StandingArch$Triples"
  | 2 => .object "StandingArch$LeastLine"
  | 3 => .object "StandingArch$Bars"
  | 4 => .array (.object "StandingArch$Sheet")
  | 5 => .array .int
  | 6 => .object "StandingArch$Fraction"
  | _ => .object "StandingArch$Fraction"
abbrev wsX60 : List Cond := u_ws RX6 TX6 8
theorem nmX6 : ∀ a, a < 8 → ∀ b, b < 8 → a ≠ b → (TX6 a).2.1 ≠ (TX6 b).2.1 := by decide +kernel
theorem tyX6_ok : ∀ k, k < 8 → parseFieldDescriptor (TX6 k).2.2.1 = some (tyX6 k) := by decide +kernel
abbrev cX6_init : ByteArray := prog_1_method_1_code
def yX6_init : MethodName := ⟨RX6, "<init>", "()V"⟩
abbrev cX6_joints : ByteArray := prog_1_method_2_code
def yX6_joints : MethodName := ⟨RX6, "joints", "(I)I"⟩
abbrev cX6_at : ByteArray := prog_1_method_3_code
def yX6_at : MethodName := ⟨RX6, "at", "(II)I"⟩
abbrev cX6_edges : ByteArray := prog_1_method_4_code
def yX6_edges : MethodName := ⟨RX6, "edges", "(III)I"⟩
abbrev cX6_load : ByteArray := prog_1_method_5_code
def yX6_load : MethodName := ⟨RX6, "load", "(II)I"⟩
abbrev cX6_sheet : ByteArray := prog_1_method_6_code
def yX6_sheet : MethodName := ⟨RX6, "sheet", "(III)I"⟩
abbrev cX6_drop : ByteArray := prog_1_method_7_code
def yX6_drop : MethodName := ⟨RX6, "drop", "(I)I"⟩
abbrev cX6_item : ByteArray := prog_1_method_8_code
def yX6_item : MethodName := ⟨RX6, "item", "(IIII)I"⟩
abbrev cX6_read : ByteArray := prog_1_method_9_code
def yX6_read : MethodName := ⟨RX6, "read", "(III)I"⟩
abbrev cX6_told : ByteArray := prog_1_method_10_code
def yX6_told : MethodName := ⟨RX6, "told", "(II)I"⟩
abbrev cX6_stands : ByteArray := prog_1_method_11_code
def yX6_stands : MethodName := ⟨RX6, "stands", "()I"⟩
abbrev cX6_thrust : ByteArray := prog_1_method_12_code
def yX6_thrust : MethodName := ⟨RX6, "thrust", "(II)J"⟩
abbrev cX6_height : ByteArray := prog_1_method_13_code
def yX6_height : MethodName := ⟨RX6, "height", "(II)J"⟩
abbrev cX6_bar : ByteArray := prog_1_method_14_code
def yX6_bar : MethodName := ⟨RX6, "bar", "(I)I"⟩
abbrev cX6_fits : ByteArray := prog_1_method_15_code
def yX6_fits : MethodName := ⟨RX6, "fits", "(IIII)I"⟩
abbrev cX6_factor : ByteArray := prog_1_method_16_code
def yX6_factor : MethodName := ⟨RX6, "factor", "(I)J"⟩
abbrev cX6_harms : ByteArray := prog_1_method_17_code
def yX6_harms : MethodName := ⟨RX6, "harms", "(I)I"⟩
abbrev cX6_falls : ByteArray := prog_1_method_18_code
def yX6_falls : MethodName := ⟨RX6, "falls", "()I"⟩
abbrev cX6_spread : ByteArray := prog_1_method_19_code
def yX6_spread : MethodName := ⟨RX6, "spread", "(I)I"⟩
abbrev cX6_holdsUnder : ByteArray := prog_1_method_20_code
def yX6_holdsUnder : MethodName := ⟨RX6, "holdsUnder", "([I)Z"⟩
abbrev cX6_refusalOfRow : ByteArray := prog_1_method_21_code
def yX6_refusalOfRow : MethodName := ⟨RX6, "refusalOfRow", "(II)I"⟩
abbrev cX6_isSheet : ByteArray := prog_1_method_22_code
def yX6_isSheet : MethodName := ⟨RX6, "isSheet", "(I)Z"⟩
abbrev cX6_isLane : ByteArray := prog_1_method_23_code
def yX6_isLane : MethodName := ⟨RX6, "isLane", "(I)Z"⟩
abbrev cX6_isChoice : ByteArray := prog_1_method_24_code
def yX6_isChoice : MethodName := ⟨RX6, "isChoice", "(I)Z"⟩
abbrev cX6_isHeight : ByteArray := prog_1_method_25_code
def yX6_isHeight : MethodName := ⟨RX6, "isHeight", "(I)Z"⟩
abbrev cX6_areEdges : ByteArray := prog_1_method_26_code
def yX6_areEdges : MethodName := ⟨RX6, "areEdges", "(II)Z"⟩
abbrev cX6_isLoad : ByteArray := prog_1_method_27_code
def yX6_isLoad : MethodName := ⟨RX6, "isLoad", "(I)Z"⟩
def RX7 : String := "StandingArchModel"
def TX7 : u_T := fun k => match k with
  | 0 => ("StandingArchModel", "n", "I", false)
  | 1 => ("StandingArchModel", "xs", "[I", true)
  | 2 => ("StandingArchModel", "lows", "[I", true)
  | 3 => ("StandingArchModel", "highs", "[I", true)
  | 4 => ("StandingArchModel", "loads", "[I", true)
  | 5 => ("StandingArchModel", "lanes", "[I", true)
  | 6 => ("StandingArchModel", "sizes", "[I", true)
  | 7 => ("StandingArchModel", "items", "[I", true)
  | 8 => ("StandingArchModel", "row", "[J", true)
  | 9 => ("StandingArchModel", "rows", "I", false)
  | 10 => ("StandingArchModel", "spot", "[J", true)
  | 11 => ("StandingArchModel", "by", "J", false)
  | 12 => ("StandingArchModel", "stands", "Z", false)
  | 13 => ("StandingArchModel", "best", "[J", true)
  | 14 => ("StandingArchModel", "bestBy", "J", false)
  | 15 => ("StandingArchModel", "leastK", "J", false)
  | 16 => ("StandingArchModel", "leastBy", "J", false)
  | 17 => ("StandingArchModel", "bars", "I", false)
  | 18 => ("StandingArchModel", "bar", "[I", true)
  | 19 => ("StandingArchModel", "factorAbove", "J", false)
  | 20 => ("StandingArchModel", "factorBelow", "J", false)
  | _ => ("StandingArchModel", "keptLoads", "[I", true)
def tyX7 : Nat → FieldType := fun k => match k with
  | 0 => .int
  | 1 => .array .int
  | 2 => .array .int
  | 3 => .array .int
  | 4 => .array .int
  | 5 => .array .int
  | 6 => .array .int
  | 7 => .array .int
  | 8 => .array .long
  | 9 => .int
  | 10 => .array .long
  | 11 => .long
  | 12 => .boolean
  | 13 => .array .long
  | 14 => .long
  | 15 => .long
  | 16 => .long
  | 17 => .int
  | 18 => .array .int
  | 19 => .long
  | 20 => .long
  | _ => .array .int
abbrev wsX70 : List Cond := u_ws RX7 TX7 22
theorem nmX7 : ∀ a, a < 22 → ∀ b, b < 22 → a ≠ b → (TX7 a).2.1 ≠ (TX7 b).2.1 := by decide +kernel
theorem tyX7_ok : ∀ k, k < 22 → parseFieldDescriptor (TX7 k).2.2.1 = some (tyX7 k) := by decide +kernel
abbrev cX7_in : ByteArray := prog_9_method_1_code
def yX7_in : MethodName := ⟨RX7, "in", "(JJJ)Z"⟩
abbrev cX7_common : ByteArray := prog_9_method_2_code
def yX7_common : MethodName := ⟨RX7, "common", "(JJ)J"⟩
abbrev cX7_init : ByteArray := prog_9_method_3_code
def yX7_init : MethodName := ⟨RX7, "<init>", "()V"⟩
abbrev cX7_begin : ByteArray := prog_9_method_4_code
def yX7_begin : MethodName := ⟨RX7, "begin", "(I)V"⟩
abbrev cX7_joints : ByteArray := prog_9_method_5_code
def yX7_joints : MethodName := ⟨RX7, "joints", "(I)I"⟩
abbrev cX7_at : ByteArray := prog_9_method_6_code
def yX7_at : MethodName := ⟨RX7, "at", "(II)I"⟩
abbrev cX7_edges : ByteArray := prog_9_method_7_code
def yX7_edges : MethodName := ⟨RX7, "edges", "(III)I"⟩
abbrev cX7_load : ByteArray := prog_9_method_8_code
def yX7_load : MethodName := ⟨RX7, "load", "(II)I"⟩
abbrev cX7_isSheet : ByteArray := prog_9_method_9_code
def yX7_isSheet : MethodName := ⟨RX7, "isSheet", "(II)Z"⟩
abbrev cX7_sheet : ByteArray := prog_9_method_10_code
def yX7_sheet : MethodName := ⟨RX7, "sheet", "(III)I"⟩
abbrev cX7_drop : ByteArray := prog_9_method_11_code
def yX7_drop : MethodName := ⟨RX7, "drop", "(I)I"⟩
abbrev cX7_item : ByteArray := prog_9_method_12_code
def yX7_item : MethodName := ⟨RX7, "item", "(IIII)I"⟩
abbrev cX7_read : ByteArray := prog_9_method_13_code
def yX7_read : MethodName := ⟨RX7, "read", "(III)I"⟩
abbrev cX7_momentAt : ByteArray := prog_9_method_14_code
def yX7_momentAt : MethodName := ⟨RX7, "momentAt", "(I)I"⟩
abbrev cX7_told : ByteArray := prog_9_method_15_code
def yX7_told : MethodName := ⟨RX7, "told", "(II)I"⟩
abbrev cX7_setRow : ByteArray := prog_9_method_16_code
def yX7_setRow : MethodName := ⟨RX7, "setRow", "(IJJJJJ)V"⟩
abbrev cX7_findRows : ByteArray := prog_9_method_17_code
def yX7_findRows : MethodName := ⟨RX7, "findRows", "(Z)V"⟩
abbrev cX7_three : ByteArray := prog_9_method_18_code
def yX7_three : MethodName := ⟨RX7, "three", "(IIIIII)J"⟩
abbrev cX7_keepsAll : ByteArray := prog_9_method_19_code
def yX7_keepsAll : MethodName := ⟨RX7, "keepsAll", "()Z"⟩
abbrev cX7_turnSpot : ByteArray := prog_9_method_20_code
def yX7_turnSpot : MethodName := ⟨RX7, "turnSpot", "()V"⟩
abbrev cX7_meetThree : ByteArray := prog_9_method_21_code
def yX7_meetThree : MethodName := ⟨RX7, "meetThree", "(III)Z"⟩
abbrev cX7_down : ByteArray := prog_9_method_22_code
def yX7_down : MethodName := ⟨RX7, "down", "(JJ)J"⟩
abbrev cX7_compare : ByteArray := prog_9_method_23_code
def yX7_compare : MethodName := ⟨RX7, "compare", "(JJJJ)I"⟩
abbrev cX7_findLines : ByteArray := prog_9_method_24_code
def yX7_findLines : MethodName := ⟨RX7, "findLines", "()V"⟩
abbrev cX7_takeSpot : ByteArray := prog_9_method_25_code
def yX7_takeSpot : MethodName := ⟨RX7, "takeSpot", "()V"⟩
abbrev cX7_isLoose : ByteArray := prog_9_method_26_code
def yX7_isLoose : MethodName := ⟨RX7, "isLoose", "()Z"⟩
abbrev cX7_stands : ByteArray := prog_9_method_27_code
def yX7_stands : MethodName := ⟨RX7, "stands", "()I"⟩
abbrev cX7_thrust : ByteArray := prog_9_method_28_code
def yX7_thrust : MethodName := ⟨RX7, "thrust", "(II)J"⟩
abbrev cX7_height : ByteArray := prog_9_method_29_code
def yX7_height : MethodName := ⟨RX7, "height", "(II)J"⟩
abbrev cX7_fits : ByteArray := prog_9_method_30_code
def yX7_fits : MethodName := ⟨RX7, "fits", "(IIII)I"⟩
abbrev cX7_pair : ByteArray := prog_9_method_31_code
def yX7_pair : MethodName := ⟨RX7, "pair", "(IIII)J"⟩
abbrev cX7_isAgainst : ByteArray := prog_9_method_32_code
def yX7_isAgainst : MethodName := ⟨RX7, "isAgainst", "(IJJJJ)Z"⟩
abbrev cX7_summed : ByteArray := prog_9_method_33_code
def yX7_summed : MethodName := ⟨RX7, "summed", "(IIJJJJ)J"⟩
abbrev cX7_areTwo : ByteArray := prog_9_method_34_code
def yX7_areTwo : MethodName := ⟨RX7, "areTwo", "()Z"⟩
abbrev cX7_areThree : ByteArray := prog_9_method_35_code
def yX7_areThree : MethodName := ⟨RX7, "areThree", "()Z"⟩
abbrev cX7_areFour : ByteArray := prog_9_method_36_code
def yX7_areFour : MethodName := ⟨RX7, "areFour", "()Z"⟩
abbrev cX7_findBars : ByteArray := prog_9_method_37_code
def yX7_findBars : MethodName := ⟨RX7, "findBars", "()I"⟩
abbrev cX7_bar : ByteArray := prog_9_method_38_code
def yX7_bar : MethodName := ⟨RX7, "bar", "(I)I"⟩
abbrev cX7_four : ByteArray := prog_9_method_39_code
def yX7_four : MethodName := ⟨RX7, "four", "(IIIIIIII)J"⟩
abbrev cX7_meetFour : ByteArray := prog_9_method_40_code
def yX7_meetFour : MethodName := ⟨RX7, "meetFour", "(IIII)Z"⟩
abbrev cX7_findFactor : ByteArray := prog_9_method_41_code
def yX7_findFactor : MethodName := ⟨RX7, "findFactor", "()Z"⟩
abbrev cX7_factor : ByteArray := prog_9_method_42_code
def yX7_factor : MethodName := ⟨RX7, "factor", "(I)J"⟩
abbrev cX7_harms : ByteArray := prog_9_method_43_code
def yX7_harms : MethodName := ⟨RX7, "harms", "(I)I"⟩
abbrev cX7_falls : ByteArray := prog_9_method_44_code
def yX7_falls : MethodName := ⟨RX7, "falls", "()I"⟩
abbrev cX7_spread : ByteArray := prog_9_method_45_code
def yX7_spread : MethodName := ⟨RX7, "spread", "(I)I"⟩
def RJ9 : String := "java/lang/Math"
def TJ9 : u_T := fun k => match k with
  | _ => ("", "", "", false)
def tyJ9 : Nat → FieldType := fun k => match k with
  | _ => .int
abbrev wsJ90 : List Cond := u_ws RJ9 TJ9 0
theorem nmJ9 : ∀ a, a < 0 → ∀ b, b < 0 → a ≠ b → (TJ9 a).2.1 ≠ (TJ9 b).2.1 := by decide +kernel
theorem tyJ9_ok : ∀ k, k < 0 → parseFieldDescriptor (TJ9 k).2.2.1 = some (tyJ9 k) := by decide +kernel
abbrev cJ9_abs_067f4 : ByteArray := prog_10_method_61_code
def yJ9_abs_067f4 : MethodName := ⟨RJ9, "abs", "(J)J"⟩
def RJ10 : String := "java/lang/System"
def TJ10 : u_T := fun k => match k with
  | _ => ("", "", "", false)
def tyJ10 : Nat → FieldType := fun k => match k with
  | _ => .int
abbrev wsJ100 : List Cond := u_ws RJ10 TJ10 0
theorem nmJ10 : ∀ a, a < 0 → ∀ b, b < 0 → a ≠ b → (TJ10 a).2.1 ≠ (TJ10 b).2.1 := by decide +kernel
theorem tyJ10_ok : ∀ k, k < 0 → parseFieldDescriptor (TJ10 k).2.2.1 = some (tyJ10 k) := by decide +kernel
def RJ7 : String := "java/util/Arrays"
def TJ7 : u_T := fun k => match k with
  | _ => ("", "", "", false)
def tyJ7 : Nat → FieldType := fun k => match k with
  | _ => .int
abbrev wsJ70 : List Cond := u_ws RJ7 TJ7 0
theorem nmJ7 : ∀ a, a < 0 → ∀ b, b < 0 → a ≠ b → (TJ7 a).2.1 ≠ (TJ7 b).2.1 := by decide +kernel
theorem tyJ7_ok : ∀ k, k < 0 → parseFieldDescriptor (TJ7 k).2.2.1 = some (tyJ7 k) := by decide +kernel
abbrev cJ7_fill_53178 : ByteArray := prog_12_method_103_code
def yJ7_fill_53178 : MethodName := ⟨RJ7, "fill", "([II)V"⟩
def RL : String := "StandingArchLaw"
abbrev cL_law : ByteArray := code
def yL_law : MethodName := ⟨RL, "law", "([I)Z"⟩
def wsJ7_fill_53178 : List Cond := .code yJ7_fill_53178 cJ7_fill_53178 4 none :: ([])
def wsJ9_abs_067f4 : List Cond := .code yJ9_abs_067f4 cJ9_abs_067f4 2 (some .long) :: ([])
def wsL_law_r1 : List Cond := [Cond.classLink RL 7 RX6, Cond.instantiable RX6 8, Cond.initialized RX6, Cond.classLink RL 10 RX7, Cond.instantiable RX7 22, Cond.initialized RX7, Cond.methodLink RL 9 yX6_init, Cond.instanceMethod yX6_init, Cond.code yX6_init cX6_init 2 none, Cond.methodLink RX6 3 objectInit, Cond.instanceMethod objectInit, Cond.code objectInit ⟨#[0xb1]⟩ 1 none, Cond.classLink RX6 9 RX0, Cond.instantiable RX0 6, Cond.initialized RX0, Cond.fieldLink RX6 12 "StandingArch" "arch" "LStandingArch$Arch;", Cond.classLink RX6 16 RX5, Cond.instantiable RX5 5, Cond.initialized RX5, Cond.fieldLink RX6 21 "StandingArch" "triples" "LStandingArch$Triples;", Cond.classLink RX6 25 RX3, Cond.instantiable RX3 7, Cond.initialized RX3, Cond.fieldLink RX6 28 "StandingArch" "leastLine" "LStandingArch$LeastLine;"]
def wsL_law_r2 : List Cond := [Cond.classLink RX6 32 RX1, Cond.instantiable RX1 3, Cond.initialized RX1, Cond.fieldLink RX6 35 "StandingArch" "bars" "LStandingArch$Bars;", Cond.classLink RX6 39 RX4, Cond.fieldLink RX6 41 "StandingArch" "sheets" "[LStandingArch$Sheet;", Cond.arrayClass .int, Cond.fieldLink RX6 45 "StandingArch" "trial" "[I", Cond.classLink RX6 49 RX2, Cond.instantiable RX2 2, Cond.initialized RX2, Cond.fieldLink RX6 52 "StandingArch" "answer" "LStandingArch$Fraction;", Cond.fieldLink RX6 56 "StandingArch" "worst" "LStandingArch$Fraction;", Cond.instantiable RX4 4, Cond.initialized RX4, Cond.instanceMethod yX0_init, Cond.code yX0_init cX0_init 1 none, Cond.methodLink RX0 3 objectInit, Cond.fieldLink RX0 9 "StandingArch$Arch" "place" "[I", Cond.fieldLink RX0 15 "StandingArch$Arch" "low" "[I", Cond.fieldLink RX0 18 "StandingArch$Arch" "high" "[I", Cond.fieldLink RX0 21 "StandingArch$Arch" "weight" "[I", Cond.fieldLink RX0 24 "StandingArch$Arch" "moment" "[I", Cond.methodLink RX6 18 yX5_init]
def wsL_law_r3 : List Cond := [Cond.instanceMethod yX5_init, Cond.code yX5_init cX5_init 2 none, Cond.methodLink RX5 1 objectInit, Cond.arrayClass .long, Cond.fieldLink RX5 9 "StandingArch$Triples" "middle" "[J", Cond.fieldLink RX5 13 "StandingArch$Triples" "room" "[J", Cond.fieldLink RX5 16 "StandingArch$Triples" "bend" "[J", Cond.fieldLink RX5 19 "StandingArch$Triples" "arch" "LStandingArch$Arch;", Cond.methodLink RX6 27 yX3_init, Cond.instanceMethod yX3_init, Cond.code yX3_init cX3_init 2 none, Cond.methodLink RX3 1 objectInit, Cond.fieldLink RX3 7 "StandingArch$LeastLine" "pushBelow" "J", Cond.fieldLink RX3 13 "StandingArch$LeastLine" "startBelow" "J", Cond.fieldLink RX3 16 "StandingArch$LeastLine" "slopeBelow" "J", Cond.fieldLink RX3 19 "StandingArch$LeastLine" "arch" "LStandingArch$Arch;", Cond.methodLink RX6 34 yX1_init, Cond.instanceMethod yX1_init, Cond.code yX1_init cX1_init 2 none, Cond.methodLink RX1 3 objectInit, Cond.fieldLink RX1 9 "StandingArch$Bars" "chosen" "[I", Cond.fieldLink RX1 15 "StandingArch$Bars" "arch" "LStandingArch$Arch;", Cond.instanceMethod yX2_init, Cond.code yX2_init cX2_init 1 none]
def wsL_law_r4 : List Cond := [Cond.methodLink RX2 1 objectInit, Cond.fieldLink RX2 7 "StandingArch$Fraction" "above" "J", Cond.fieldLink RX2 13 "StandingArch$Fraction" "below" "J", Cond.methodLink RX6 59 yX0_renew, Cond.instanceMethod yX0_renew, Cond.selects RX0 yX0_renew yX0_renew, Cond.code yX0_renew cX0_renew 3 none, Cond.fieldLink RX0 27 "StandingArch$Arch" "last" "I", Cond.instanceMethod yX4_init, Cond.code yX4_init cX4_init 1 none, Cond.methodLink RX4 3 objectInit, Cond.fieldLink RX4 9 "StandingArch$Sheet" "items" "[I", Cond.methodLink RL 12 yX7_init, Cond.instanceMethod yX7_init, Cond.code yX7_init cX7_init 2 none, Cond.methodLink RX7 1 objectInit, Cond.fieldLink RX7 7 "StandingArchModel" "n" "I", Cond.fieldLink RX7 13 "StandingArchModel" "xs" "[I", Cond.fieldLink RX7 17 "StandingArchModel" "lows" "[I", Cond.fieldLink RX7 20 "StandingArchModel" "highs" "[I", Cond.fieldLink RX7 23 "StandingArchModel" "loads" "[I", Cond.fieldLink RX7 26 "StandingArchModel" "lanes" "[I", Cond.fieldLink RX7 29 "StandingArchModel" "sizes" "[I", Cond.fieldLink RX7 32 "StandingArchModel" "items" "[I"]
def wsL_law_r5 : List Cond := [Cond.fieldLink RX7 35 "StandingArchModel" "row" "[J", Cond.fieldLink RX7 39 "StandingArchModel" "spot" "[J", Cond.fieldLink RX7 42 "StandingArchModel" "best" "[J", Cond.fieldLink RX7 45 "StandingArchModel" "bar" "[I", Cond.fieldLink RX7 48 "StandingArchModel" "keptLoads" "[I", Cond.methodLink RX7 51 yX7_begin, Cond.instanceMethod yX7_begin, Cond.selects RX7 yX7_begin yX7_begin, Cond.code yX7_begin cX7_begin 3 none, Cond.methodLink RL 13 yX6_joints, Cond.instanceMethod yX6_joints, Cond.selects RX6 yX6_joints yX6_joints, Cond.code yX6_joints cX6_joints 2 (some .int), Cond.methodLink RL 17 yX7_joints, Cond.instanceMethod yX7_joints, Cond.selects RX7 yX7_joints yX7_joints, Cond.code yX7_joints cX7_joints 2 (some .int), Cond.constantLong RX7 55 (2), Cond.constantLong RX7 57 (6), Cond.methodLink RX7 59 yX7_in, Cond.static yX7_in, Cond.code yX7_in cX7_in 6 (some .boolean), Cond.methodLink RL 18 yX6_at, Cond.instanceMethod yX6_at]
def wsL_law_r6 : List Cond := [Cond.selects RX6 yX6_at yX6_at, Cond.code yX6_at cX6_at 4 (some .int), Cond.fieldLink RX6 64 "StandingArch$Arch" "last" "I", Cond.fieldLink RX6 68 "StandingArch$Arch" "place" "[I", Cond.methodLink RL 22 yX7_at, Cond.instanceMethod yX7_at, Cond.selects RX7 yX7_at yX7_at, Cond.code yX7_at cX7_at 4 (some .int), Cond.constantLong RX7 63 (20), Cond.methodLink RL 23 yX6_edges, Cond.instanceMethod yX6_edges, Cond.selects RX6 yX6_edges yX6_edges, Cond.code yX6_edges cX6_edges 4 (some .int), Cond.fieldLink RX6 79 "StandingArch$Arch" "low" "[I", Cond.fieldLink RX6 82 "StandingArch$Arch" "high" "[I", Cond.methodLink RX6 71 yX0_hasJoint, Cond.instanceMethod yX0_hasJoint, Cond.selects RX0 yX0_hasJoint yX0_hasJoint, Cond.code yX0_hasJoint cX0_hasJoint 2 (some .boolean), Cond.methodLink RX6 75 yX6_areEdges, Cond.static yX6_areEdges, Cond.code yX6_areEdges cX6_areEdges 2 (some .boolean), Cond.methodLink RX6 196 yX6_isHeight, Cond.static yX6_isHeight]
def wsL_law_r7 : List Cond := [Cond.code yX6_isHeight cX6_isHeight 1 (some .boolean), Cond.methodLink RL 27 yX7_edges, Cond.instanceMethod yX7_edges, Cond.selects RX7 yX7_edges yX7_edges, Cond.code yX7_edges cX7_edges 4 (some .int), Cond.constantLong RX7 65 (-20), Cond.methodLink RL 28 yX6_load, Cond.instanceMethod yX6_load, Cond.selects RX6 yX6_load yX6_load, Cond.code yX6_load cX6_load 4 (some .int), Cond.fieldLink RX6 91 "StandingArch$Arch" "weight" "[I", Cond.methodLink RX6 85 yX0_hasInnerJoint, Cond.instanceMethod yX0_hasInnerJoint, Cond.selects RX0 yX0_hasInnerJoint yX0_hasInnerJoint, Cond.code yX0_hasInnerJoint cX0_hasInnerJoint 2 (some .boolean), Cond.methodLink RX6 88 yX6_isLoad, Cond.static yX6_isLoad, Cond.code yX6_isLoad cX6_isLoad 1 (some .boolean), Cond.methodLink RL 31 yX7_load, Cond.instanceMethod yX7_load, Cond.selects RX7 yX7_load yX7_load, Cond.code yX7_load cX7_load 4 (some .int), Cond.constantLong RX7 67 (10), Cond.methodLink RL 32 yX6_sheet]
def wsL_law_r8 : List Cond := [Cond.instanceMethod yX6_sheet, Cond.selects RX6 yX6_sheet yX6_sheet, Cond.code yX6_sheet cX6_sheet 4 (some .int), Cond.methodLink RX6 94 yX6_isSheet, Cond.static yX6_isSheet, Cond.code yX6_isSheet cX6_isSheet 1 (some .boolean), Cond.methodLink RX6 97 yX6_isLane, Cond.static yX6_isLane, Cond.code yX6_isLane cX6_isLane 1 (some .boolean), Cond.methodLink RX6 100 yX4_hold, Cond.instanceMethod yX4_hold, Cond.selects RX4 yX4_hold yX4_hold, Cond.code yX4_hold cX4_hold 3 none, Cond.fieldLink RX4 15 "StandingArch$Sheet" "held" "Z", Cond.fieldLink RX4 19 "StandingArch$Sheet" "lane" "I", Cond.fieldLink RX4 23 "StandingArch$Sheet" "size" "I", Cond.methodLink RX4 26 yJ7_fill_53178, Cond.static yJ7_fill_53178, Cond.initialized RJ7, Cond.code yJ7_fill_53178 cJ7_fill_53178 4 none, Cond.methodLink RL 35 yX7_sheet, Cond.instanceMethod yX7_sheet, Cond.selects RX7 yX7_sheet yX7_sheet, Cond.code yX7_sheet cX7_sheet 5 (some .int)]
def wsL_law_r9 : List Cond := [Cond.methodLink RX7 71 yX7_isSheet, Cond.static yX7_isSheet, Cond.code yX7_isSheet cX7_isSheet 2 (some .boolean), Cond.constantLong RX7 69 (3), Cond.methodLink RL 36 yX6_drop, Cond.instanceMethod yX6_drop, Cond.selects RX6 yX6_drop yX6_drop, Cond.code yX6_drop cX6_drop 2 (some .int), Cond.fieldLink RX6 104 "StandingArch$Sheet" "held" "Z", Cond.fieldLink RX6 108 "StandingArch$Sheet" "size" "I", Cond.methodLink RL 39 yX7_drop, Cond.instanceMethod yX7_drop, Cond.selects RX7 yX7_drop yX7_drop, Cond.code yX7_drop cX7_drop 2 (some .int), Cond.methodLink RL 40 yX6_item, Cond.instanceMethod yX6_item, Cond.selects RX6 yX6_item yX6_item, Cond.code yX6_item cX6_item 7 (some .int), Cond.fieldLink RX6 115 "StandingArch$Sheet" "items" "[I", Cond.methodLink RX6 111 yX6_refusalOfRow, Cond.instanceMethod yX6_refusalOfRow, Cond.selects RX6 yX6_refusalOfRow yX6_refusalOfRow, Cond.code yX6_refusalOfRow cX6_refusalOfRow 3 (some .int), Cond.fieldLink RX6 217 "StandingArch$Sheet" "lane" "I"]
def wsL_law_r10 : List Cond := [Cond.methodLink RL 44 yX7_item, Cond.instanceMethod yX7_item, Cond.selects RX7 yX7_item yX7_item, Cond.code yX7_item cX7_item 5 (some .int), Cond.methodLink RL 45 yX6_read, Cond.instanceMethod yX6_read, Cond.selects RX6 yX6_read yX6_read, Cond.code yX6_read cX6_read 6 (some .int), Cond.methodLink RX6 118 yX0_mayTake, Cond.instanceMethod yX0_mayTake, Cond.selects RX0 yX0_mayTake yX0_mayTake, Cond.code yX0_mayTake cX0_mayTake 7 (some .boolean), Cond.methodLink RX6 122 yX0_take, Cond.instanceMethod yX0_take, Cond.selects RX0 yX0_take yX0_take, Cond.code yX0_take cX0_take 5 none, Cond.methodLink RX0 39 yX0_hasInnerJoint, Cond.methodLink RL 48 yX7_read, Cond.instanceMethod yX7_read, Cond.selects RX7 yX7_read yX7_read, Cond.code yX7_read cX7_read 9 (some .int), Cond.methodLink RL 49 yX6_told, Cond.instanceMethod yX6_told, Cond.selects RX6 yX6_told yX6_told]
def wsL_law_r11 : List Cond := [Cond.code yX6_told cX6_told 3 (some .int), Cond.constant RX6 126 (-100001), Cond.fieldLink RX6 131 "StandingArch$Arch" "moment" "[I", Cond.methodLink RX6 127 yX0_weigh, Cond.instanceMethod yX0_weigh, Cond.selects RX0 yX0_weigh yX0_weigh, Cond.code yX0_weigh cX0_weigh 7 none, Cond.methodLink RX0 42 yX0_span, Cond.instanceMethod yX0_span, Cond.selects RX0 yX0_span yX0_span, Cond.code yX0_span cX0_span 1 (some .int), Cond.methodLink RL 52 yX7_told, Cond.instanceMethod yX7_told, Cond.selects RX7 yX7_told yX7_told, Cond.code yX7_told cX7_told 3 (some .int), Cond.constantLong RX7 75 (4), Cond.constant RX7 77 (-100001), Cond.methodLink RX7 78 yX7_momentAt, Cond.instanceMethod yX7_momentAt, Cond.selects RX7 yX7_momentAt yX7_momentAt, Cond.code yX7_momentAt cX7_momentAt 4 (some .int), Cond.methodLink RL 53 yX6_stands, Cond.instanceMethod yX6_stands, Cond.selects RX6 yX6_stands yX6_stands]
def wsL_law_r12 : List Cond := [Cond.code yX6_stands cX6_stands 1 (some .int), Cond.methodLink RX6 134 yX6_holdsUnder, Cond.instanceMethod yX6_holdsUnder, Cond.selects RX6 yX6_holdsUnder yX6_holdsUnder, Cond.code yX6_holdsUnder cX6_holdsUnder 2 (some .boolean), Cond.methodLink RX6 199 yX5_gather, Cond.instanceMethod yX5_gather, Cond.selects RX5 yX5_gather yX5_gather, Cond.code yX5_gather cX5_gather 9 none, Cond.fieldLink RX5 29 "StandingArch$Triples" "count" "I", Cond.fieldLink RX5 33 "StandingArch$Arch" "last" "I", Cond.fieldLink RX5 36 "StandingArch$Arch" "low" "[I", Cond.fieldLink RX5 40 "StandingArch$Arch" "high" "[I", Cond.methodLink RX5 23 yX0_weigh, Cond.methodLink RX5 43 yX0_rise, Cond.instanceMethod yX0_rise, Cond.selects RX0 yX0_rise yX0_rise, Cond.code yX0_rise cX0_rise 8 (some .long), Cond.methodLink RX5 47 yX0_bend, Cond.instanceMethod yX0_bend, Cond.selects RX0 yX0_bend yX0_bend, Cond.code yX0_bend cX0_bend 4 (some .long), Cond.methodLink RX0 46 yX0_rise, Cond.methodLink RX6 214 yX5_hold]
def wsL_law_r13 : List Cond := [Cond.instanceMethod yX5_hold, Cond.selects RX5 yX5_hold yX5_hold, Cond.code yX5_hold cX5_hold 2 (some .boolean), Cond.methodLink RX5 50 Lib.MathLoose.abs_long.x, Cond.static Lib.MathLoose.abs_long.x, Cond.initialized "java/lang/Math", Cond.code Lib.MathLoose.abs_long.x Lib.MathLoose.abs_long.code 2 (some .long), Cond.methodLink RX5 56 yX5_tightestLeast, Cond.instanceMethod yX5_tightestLeast, Cond.selects RX5 yX5_tightestLeast yX5_tightestLeast, Cond.code yX5_tightestLeast cX5_tightestLeast 7 (some .int), Cond.methodLink RX5 86 yX5_least, Cond.instanceMethod yX5_least, Cond.selects RX5 yX5_least yX5_least, Cond.code yX5_least cX5_least 6 (some .long), Cond.methodLink RX5 60 yX5_tightestMost, Cond.instanceMethod yX5_tightestMost, Cond.selects RX5 yX5_tightestMost yX5_tightestMost, Cond.code yX5_tightestMost cX5_tightestMost 7 (some .int), Cond.methodLink RX5 90 yX5_most, Cond.instanceMethod yX5_most, Cond.selects RX5 yX5_most yX5_most, Cond.code yX5_most cX5_most 6 (some .long), Cond.methodLink RX5 63 yX5_bars]
def wsL_law_r14 : List Cond := [Cond.instanceMethod yX5_bars, Cond.selects RX5 yX5_bars yX5_bars, Cond.code yX5_bars cX5_bars 7 (some .boolean), Cond.methodLink RL 57 yX7_stands, Cond.instanceMethod yX7_stands, Cond.selects RX7 yX7_stands yX7_stands, Cond.code yX7_stands cX7_stands 1 (some .int), Cond.fieldLink RX7 114 "StandingArchModel" "stands" "Z", Cond.methodLink RX7 141 yX7_findLines, Cond.instanceMethod yX7_findLines, Cond.selects RX7 yX7_findLines yX7_findLines, Cond.code yX7_findLines cX7_findLines 4 none, Cond.fieldLink RX7 88 "StandingArchModel" "rows" "I", Cond.methodLink RX7 110 yX7_findRows, Cond.instanceMethod yX7_findRows, Cond.selects RX7 yX7_findRows yX7_findRows, Cond.code yX7_findRows cX7_findRows 15 none, Cond.constantLong RX7 86 (-2), Cond.methodLink RX7 82 yX7_setRow, Cond.instanceMethod yX7_setRow, Cond.selects RX7 yX7_setRow yX7_setRow, Cond.code yX7_setRow cX7_setRow 12 none, Cond.methodLink RX7 118 yX7_meetThree, Cond.instanceMethod yX7_meetThree]
def wsL_law_r15 : List Cond := [Cond.selects RX7 yX7_meetThree yX7_meetThree, Cond.code yX7_meetThree cX7_meetThree 4 (some .boolean), Cond.fieldLink RX7 91 "StandingArchModel" "by" "J", Cond.methodLink RX7 95 yX7_three, Cond.instanceMethod yX7_three, Cond.selects RX7 yX7_three yX7_three, Cond.code yX7_three cX7_three 13 (some .long), Cond.methodLink RX7 99 yX7_turnSpot, Cond.instanceMethod yX7_turnSpot, Cond.selects RX7 yX7_turnSpot yX7_turnSpot, Cond.code yX7_turnSpot cX7_turnSpot 2 none, Cond.methodLink RX7 102 yX7_keepsAll, Cond.instanceMethod yX7_keepsAll, Cond.selects RX7 yX7_keepsAll yX7_keepsAll, Cond.code yX7_keepsAll cX7_keepsAll 4 (some .boolean), Cond.methodLink RX7 122 yX7_takeSpot, Cond.instanceMethod yX7_takeSpot, Cond.selects RX7 yX7_takeSpot yX7_takeSpot, Cond.code yX7_takeSpot cX7_takeSpot 12 none, Cond.fieldLink RX7 128 "StandingArchModel" "bestBy" "J", Cond.fieldLink RX7 135 "StandingArchModel" "leastK" "J", Cond.fieldLink RX7 138 "StandingArchModel" "leastBy" "J", Cond.methodLink RX7 125 yX7_common, Cond.static yX7_common]
def wsL_law_r16 : List Cond := [Cond.code yX7_common cX7_common 10 (some .long), Cond.methodLink RX7 131 yX7_compare, Cond.static yX7_compare, Cond.code yX7_compare cX7_compare 25 (some .int), Cond.methodLink RX7 106 yX7_down, Cond.static yX7_down, Cond.code yX7_down cX7_down 6 (some .long), Cond.methodLink RL 58 yX6_thrust, Cond.instanceMethod yX6_thrust, Cond.selects RX6 yX6_thrust yX6_thrust, Cond.code yX6_thrust cX6_thrust 4 (some .long), Cond.constantLong RX6 141 (-1), Cond.constantLong RX6 143 (-2), Cond.fieldLink RX6 152 "StandingArch$Fraction" "above" "J", Cond.constantLong RX6 156 (-4), Cond.fieldLink RX6 158 "StandingArch$Fraction" "below" "J", Cond.methodLink RX6 138 yX6_isChoice, Cond.static yX6_isChoice, Cond.code yX6_isChoice cX6_isChoice 1 (some .boolean), Cond.methodLink RX6 145 yX5_greatestPush, Cond.instanceMethod yX5_greatestPush, Cond.selects RX5 yX5_greatestPush yX5_greatestPush, Cond.code yX5_greatestPush cX5_greatestPush 3 (some .boolean), Cond.constantLong RX5 67 (2)]
def wsL_law_r17 : List Cond := [Cond.methodLink RX5 69 yX2_become, Cond.instanceMethod yX2_become, Cond.selects RX2 yX2_become yX2_become, Cond.code yX2_become cX2_become 7 none, Cond.methodLink RX2 16 Lib.MathLoose.abs_long.x, Cond.methodLink RX2 22 yX2_commonDivisor, Cond.static yX2_commonDivisor, Cond.code yX2_commonDivisor cX2_commonDivisor 7 (some .long), Cond.methodLink RX6 149 yX5_leastPush, Cond.instanceMethod yX5_leastPush, Cond.selects RX5 yX5_leastPush yX5_leastPush, Cond.code yX5_leastPush cX5_leastPush 3 (some .boolean), Cond.methodLink RX6 161 yX0_span, Cond.methodLink RX6 165 yX2_become, Cond.methodLink RX6 169 yX2_part, Cond.instanceMethod yX2_part, Cond.selects RX2 yX2_part yX2_part, Cond.code yX2_part cX2_part 2 (some .long), Cond.methodLink RL 62 yX7_thrust, Cond.instanceMethod yX7_thrust, Cond.selects RX7 yX7_thrust yX7_thrust, Cond.code yX7_thrust cX7_thrust 9 (some .long), Cond.constantLong RX7 144 (-1), Cond.constantLong RX7 149 (-4)]
def wsL_law_r18 : List Cond := [Cond.methodLink RX7 146 yX7_isLoose, Cond.instanceMethod yX7_isLoose, Cond.selects RX7 yX7_isLoose yX7_isLoose, Cond.code yX7_isLoose cX7_isLoose 3 (some .boolean), Cond.methodLink RL 63 yX6_height, Cond.instanceMethod yX6_height, Cond.selects RX6 yX6_height yX6_height, Cond.code yX6_height cX6_height 3 (some .long), Cond.constantLong RX6 173 (-1000000000000001), Cond.constantLong RX6 175 (-1000000000000002), Cond.constantLong RX6 177 (-1000000000000004), Cond.methodLink RX6 179 yX3_lay, Cond.instanceMethod yX3_lay, Cond.selects RX3 yX3_lay yX3_lay, Cond.code yX3_lay cX3_lay 2 none, Cond.fieldLink RX3 23 "StandingArch$Fraction" "above" "J", Cond.fieldLink RX3 28 "StandingArch$LeastLine" "pushAbove" "J", Cond.fieldLink RX3 31 "StandingArch$Fraction" "below" "J", Cond.methodLink RX3 34 yX3_findLeastStart, Cond.instanceMethod yX3_findLeastStart, Cond.selects RX3 yX3_findLeastStart yX3_findLeastStart, Cond.code yX3_findLeastStart cX3_findLeastStart 7 none, Cond.fieldLink RX3 44 "StandingArch$LeastLine" "startAbove" "J", Cond.fieldLink RX3 47 "StandingArch$Arch" "last" "I"]
def wsL_law_r19 : List Cond := [Cond.fieldLink RX3 53 "StandingArch$Arch" "place" "[I", Cond.methodLink RX3 40 yX3_straightLow, Cond.instanceMethod yX3_straightLow, Cond.selects RX3 yX3_straightLow yX3_straightLow, Cond.code yX3_straightLow cX3_straightLow 2 (some .long), Cond.fieldLink RX3 74 "StandingArch$Arch" "low" "[I", Cond.fieldLink RX3 67 "StandingArch$Arch" "moment" "[I", Cond.methodLink RX3 57 yX3_straightHigh, Cond.instanceMethod yX3_straightHigh, Cond.selects RX3 yX3_straightHigh yX3_straightHigh, Cond.code yX3_straightHigh cX3_straightHigh 2 (some .long), Cond.fieldLink RX3 77 "StandingArch$Arch" "high" "[I", Cond.methodLink RX3 37 yX3_findLeastSlope, Cond.instanceMethod yX3_findLeastSlope, Cond.selects RX3 yX3_findLeastSlope yX3_findLeastSlope, Cond.code yX3_findLeastSlope cX3_findLeastSlope 6 none, Cond.fieldLink RX3 60 "StandingArch$LeastLine" "slopeAbove" "J", Cond.methodLink RX3 63 yX0_span, Cond.methodLink RX6 183 yX3_heightInto, Cond.instanceMethod yX3_heightInto, Cond.selects RX3 yX3_heightInto yX3_heightInto, Cond.code yX3_heightInto cX3_heightInto 7 none, Cond.methodLink RX3 70 yX2_become, Cond.methodLink RL 66 yX7_height]
def wsL_law_r20 : List Cond := [Cond.instanceMethod yX7_height, Cond.selects RX7 yX7_height yX7_height, Cond.code yX7_height cX7_height 9 (some .long), Cond.constantLong RX7 151 (-1000000000000001), Cond.constantLong RX7 153 (-1000000000000002), Cond.constantLong RX7 155 (-1000000000000004), Cond.methodLink RL 67 yX6_bar, Cond.instanceMethod yX6_bar, Cond.selects RX6 yX6_bar yX6_bar, Cond.code yX6_bar cX6_bar 2 (some .int), Cond.fieldLink RX6 190 "StandingArch$Bars" "count" "I", Cond.fieldLink RX6 193 "StandingArch$Bars" "chosen" "[I", Cond.methodLink RX6 187 yX1_find, Cond.instanceMethod yX1_find, Cond.selects RX1 yX1_find yX1_find, Cond.code yX1_find cX1_find 1 none, Cond.fieldLink RX1 19 "StandingArch$Bars" "count" "I", Cond.methodLink RX1 23 yX1_findFirst, Cond.instanceMethod yX1_findFirst, Cond.selects RX1 yX1_findFirst yX1_findFirst, Cond.code yX1_findFirst cX1_findFirst 6 (some .boolean), Cond.fieldLink RX1 27 "StandingArch$Arch" "last" "I", Cond.methodLink RX1 32 yX1_barsThree, Cond.instanceMethod yX1_barsThree]
def wsL_law_r21 : List Cond := [Cond.selects RX1 yX1_barsThree yX1_barsThree, Cond.code yX1_barsThree cX1_barsThree 5 (some .boolean), Cond.methodLink RX1 39 yX0_bend, Cond.methodLink RX1 43 yX1_isBeyondChord, Cond.instanceMethod yX1_isBeyondChord, Cond.selects RX1 yX1_isBeyondChord yX1_isBeyondChord, Cond.code yX1_isBeyondChord cX1_isBeyondChord 5 (some .boolean), Cond.fieldLink RX1 54 "StandingArch$Arch" "high" "[I", Cond.fieldLink RX1 57 "StandingArch$Arch" "low" "[I", Cond.methodLink RX1 60 yX0_rise, Cond.methodLink RX1 46 yX1_keep, Cond.instanceMethod yX1_keep, Cond.selects RX1 yX1_keep yX1_keep, Cond.code yX1_keep cX1_keep 5 none, Cond.methodLink RX1 36 yX1_barsFour, Cond.instanceMethod yX1_barsFour, Cond.selects RX1 yX1_barsFour yX1_barsFour, Cond.code yX1_barsFour cX1_barsFour 6 (some .boolean), Cond.methodLink RX1 50 yX1_isCrossed, Cond.instanceMethod yX1_isCrossed, Cond.selects RX1 yX1_isCrossed yX1_isCrossed, Cond.code yX1_isCrossed cX1_isCrossed 10 (some .boolean), Cond.methodLink RL 70 yX7_bar, Cond.instanceMethod yX7_bar]
def wsL_law_r22 : List Cond := [Cond.selects RX7 yX7_bar yX7_bar, Cond.code yX7_bar cX7_bar 2 (some .int), Cond.fieldLink RX7 184 "StandingArchModel" "bars" "I", Cond.methodLink RX7 180 yX7_findBars, Cond.instanceMethod yX7_findBars, Cond.selects RX7 yX7_findBars yX7_findBars, Cond.code yX7_findBars cX7_findBars 1 (some .int), Cond.methodLink RX7 171 yX7_areTwo, Cond.instanceMethod yX7_areTwo, Cond.selects RX7 yX7_areTwo yX7_areTwo, Cond.code yX7_areTwo cX7_areTwo 2 (some .boolean), Cond.methodLink RX7 163 yX7_isAgainst, Cond.instanceMethod yX7_isAgainst, Cond.selects RX7 yX7_isAgainst yX7_isAgainst, Cond.code yX7_isAgainst cX7_isAgainst 14 (some .boolean), Cond.methodLink RX7 159 yX7_summed, Cond.instanceMethod yX7_summed, Cond.selects RX7 yX7_summed yX7_summed, Cond.code yX7_summed cX7_summed 13 (some .long), Cond.methodLink RX7 174 yX7_areThree, Cond.instanceMethod yX7_areThree, Cond.selects RX7 yX7_areThree yX7_areThree, Cond.code yX7_areThree cX7_areThree 4 (some .boolean), Cond.methodLink RX7 167 yX7_pair]
def wsL_law_r23 : List Cond := [Cond.instanceMethod yX7_pair, Cond.selects RX7 yX7_pair yX7_pair, Cond.code yX7_pair cX7_pair 5 (some .long), Cond.methodLink RX7 177 yX7_areFour, Cond.instanceMethod yX7_areFour, Cond.selects RX7 yX7_areFour yX7_areFour, Cond.code yX7_areFour cX7_areFour 9 (some .boolean), Cond.methodLink RL 71 yX6_fits, Cond.instanceMethod yX6_fits, Cond.selects RX6 yX6_fits yX6_fits, Cond.code yX6_fits cX6_fits 12 (some .int), Cond.methodLink RL 74 yX7_fits, Cond.instanceMethod yX7_fits, Cond.selects RX7 yX7_fits yX7_fits, Cond.code yX7_fits cX7_fits 5 (some .int), Cond.constantLong RX7 157 (1000), Cond.methodLink RL 75 yX6_factor, Cond.instanceMethod yX6_factor, Cond.selects RX6 yX6_factor yX6_factor, Cond.code yX6_factor cX6_factor 2 (some .long), Cond.methodLink RX6 202 yX5_leastFactor, Cond.instanceMethod yX5_leastFactor, Cond.selects RX5 yX5_leastFactor yX5_leastFactor, Cond.code yX5_leastFactor cX5_leastFactor 7 (some .boolean)]
def wsL_law_r24 : List Cond := [Cond.fieldLink RX5 79 "StandingArch$Fraction" "above" "J", Cond.fieldLink RX5 83 "StandingArch$Fraction" "below" "J", Cond.methodLink RX5 75 yX5_straightFactor, Cond.instanceMethod yX5_straightFactor, Cond.selects RX5 yX5_straightFactor yX5_straightFactor, Cond.code yX5_straightFactor cX5_straightFactor 5 (some .boolean), Cond.methodLink RL 79 yX7_factor, Cond.instanceMethod yX7_factor, Cond.selects RX7 yX7_factor yX7_factor, Cond.code yX7_factor cX7_factor 2 (some .long), Cond.fieldLink RX7 194 "StandingArchModel" "factorAbove" "J", Cond.fieldLink RX7 191 "StandingArchModel" "factorBelow" "J", Cond.methodLink RX7 201 yX7_findFactor, Cond.instanceMethod yX7_findFactor, Cond.selects RX7 yX7_findFactor yX7_findFactor, Cond.code yX7_findFactor cX7_findFactor 7 (some .boolean), Cond.methodLink RX7 197 yX7_meetFour, Cond.instanceMethod yX7_meetFour, Cond.selects RX7 yX7_meetFour yX7_meetFour, Cond.code yX7_meetFour cX7_meetFour 5 (some .boolean), Cond.methodLink RX7 187 yX7_four, Cond.instanceMethod yX7_four, Cond.selects RX7 yX7_four yX7_four, Cond.code yX7_four cX7_four 9 (some .long)]
def wsL_law_r25 : List Cond := [Cond.methodLink RL 80 yX6_harms, Cond.instanceMethod yX6_harms, Cond.selects RX6 yX6_harms yX6_harms, Cond.code yX6_harms cX6_harms 4 (some .int), Cond.methodLink RX6 205 arraycopyName, Cond.native arraycopyName, Cond.static arraycopyName, Cond.initialized "java/lang/System", Cond.methodLink RX6 211 yX2_isAbove, Cond.instanceMethod yX2_isAbove, Cond.selects RX2 yX2_isAbove yX2_isAbove, Cond.code yX2_isAbove cX2_isAbove 2 (some .boolean), Cond.methodLink RL 83 yX7_harms, Cond.instanceMethod yX7_harms, Cond.selects RX7 yX7_harms yX7_harms, Cond.code yX7_harms cX7_harms 9 (some .int), Cond.methodLink RL 84 yX6_falls, Cond.instanceMethod yX6_falls, Cond.selects RX6 yX6_falls yX6_falls, Cond.code yX6_falls cX6_falls 5 (some .int), Cond.methodLink RL 87 yX7_falls, Cond.instanceMethod yX7_falls, Cond.selects RX7 yX7_falls yX7_falls, Cond.code yX7_falls cX7_falls 5 (some .int)]
def wsL_law_r26 : List Cond := [Cond.methodLink RL 88 yX6_spread, Cond.instanceMethod yX6_spread, Cond.selects RX6 yX6_spread yX6_spread, Cond.code yX6_spread cX6_spread 3 (some .int), Cond.methodLink RL 91 yX7_spread, Cond.instanceMethod yX7_spread, Cond.selects RX7 yX7_spread yX7_spread, Cond.code yX7_spread cX7_spread 2 (some .int), Cond.constantLong RX7 204 (-10)]
def wsL_law : List Cond := (wsL_law_r1 ++ (wsL_law_r2 ++ (wsL_law_r3 ++ (wsL_law_r4 ++ (wsL_law_r5 ++ (wsL_law_r6 ++ (wsL_law_r7 ++ (wsL_law_r8 ++ (wsL_law_r9 ++ (wsL_law_r10 ++ (wsL_law_r11 ++ (wsL_law_r12 ++ (wsL_law_r13 ++ (wsL_law_r14 ++ (wsL_law_r15 ++ (wsL_law_r16 ++ (wsL_law_r17 ++ (wsL_law_r18 ++ (wsL_law_r19 ++ (wsL_law_r20 ++ (wsL_law_r21 ++ (wsL_law_r22 ++ (wsL_law_r23 ++ (wsL_law_r24 ++ (wsL_law_r25 ++ wsL_law_r26))))))))))))))))))))))))) ++ wsX60 ++ wsX70 ++ wsX00 ++ wsX50 ++ wsX30 ++ wsX10 ++ wsX20 ++ wsX40 ++ ([] : List Cond)
theorem inlX0 : ∀ w ∈ wsX00, w ∈ wsL_law := fun _ h => List.mem_append_left _ (List.mem_append_left _ (List.mem_append_left _ (List.mem_append_left _ (List.mem_append_left _ (List.mem_append_left _ (List.mem_append_right _ h))))))
theorem inlX1 : ∀ w ∈ wsX10, w ∈ wsL_law := fun _ h => List.mem_append_left _ (List.mem_append_left _ (List.mem_append_left _ (List.mem_append_right _ h)))
theorem inlX2 : ∀ w ∈ wsX20, w ∈ wsL_law := fun _ h => List.mem_append_left _ (List.mem_append_left _ (List.mem_append_right _ h))
theorem inlX3 : ∀ w ∈ wsX30, w ∈ wsL_law := fun _ h => List.mem_append_left _ (List.mem_append_left _ (List.mem_append_left _ (List.mem_append_left _ (List.mem_append_right _ h))))
theorem inlX4 : ∀ w ∈ wsX40, w ∈ wsL_law := fun _ h => List.mem_append_left _ (List.mem_append_right _ h)
theorem inlX5 : ∀ w ∈ wsX50, w ∈ wsL_law := fun _ h => List.mem_append_left _ (List.mem_append_left _ (List.mem_append_left _ (List.mem_append_left _ (List.mem_append_left _ (List.mem_append_right _ h)))))
theorem inlX6 : ∀ w ∈ wsX60, w ∈ wsL_law := fun _ h => List.mem_append_left _ (List.mem_append_left _ (List.mem_append_left _ (List.mem_append_left _ (List.mem_append_left _ (List.mem_append_left _ (List.mem_append_left _ (List.mem_append_left _ (List.mem_append_right _ h))))))))
theorem inlX7 : ∀ w ∈ wsX70, w ∈ wsL_law := fun _ h => List.mem_append_left _ (List.mem_append_left _ (List.mem_append_left _ (List.mem_append_left _ (List.mem_append_left _ (List.mem_append_left _ (List.mem_append_left _ (List.mem_append_right _ h)))))))
abbrev vwCl : List vw_C := [(RX0, TX0, 6), (RX1, TX1, 3), (RX2, TX2, 2), (RX3, TX3, 7), (RX4, TX4, 4), (RX5, TX5, 5), (RX6, TX6, 8), (RX7, TX7, 22)]
