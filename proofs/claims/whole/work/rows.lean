section
/-! ===== BEGIN words of one list among another's, by their places ===== -/
theorem goodIn_r {big : List Cond} (ws : List Cond) (ps : List Nat) (hp : ws = ps.filterMap (fun i => big[i]?)) (h : ws.all goodWord = true) : GoodIn big ws := by
  intro w hw
  have h1 := List.all_eq_true.mp h w hw
  rw [hp] at hw
  obtain ⟨i, -, hi⟩ := List.mem_filterMap.mp hw
  have hm : w ∈ big := by first | exact List.mem_of_getElem? hi | exact List.getElem?_mem hi
  exact ⟨hm, good_of_word h1⟩
theorem goodIn_app {big a b : List Cond} (ha : GoodIn big a) (hb : GoodIn big b) : GoodIn big (a ++ b) := fun w h => (List.mem_append.mp h).elim (ha w) (hb w)
theorem goodIn_ca {big a b : List Cond} {c : Cond} (ha : GoodIn big (c :: a)) (hb : GoodIn big b) : GoodIn big (c :: (a ++ b)) := fun w h => (List.mem_cons.mp h).elim (fun e => ha w (List.mem_cons.mpr (Or.inl e))) (fun h => (List.mem_append.mp h).elim (fun h => ha w (List.mem_cons.mpr (Or.inr h))) (hb w))
theorem goodIn_sub {big ws : List Cond} (hm : ∀ w ∈ ws, w ∈ big) (h : ws.all goodWord = true) : GoodIn big ws := fun w hw => ⟨hm w hw, good_of_word (List.all_eq_true.mp h w hw)⟩
/-! ===== END ===== -/

/-! ===== BEGIN printed: names, fields, word lists, decode rows ===== -/
def RX0 : String := "PastAndClear$Approach"
def TX0 : u_T := fun k => match k with
  | 0 => ("PastAndClear$Approach", "timeAbove", "J", false)
  | 1 => ("PastAndClear$Approach", "timeBelow", "J", false)
  | 2 => ("PastAndClear$Approach", "nearAbove", "J", false)
  | _ => ("PastAndClear$Approach", "nearBelow", "J", false)
def tyX0 : Nat → FieldType := fun k => match k with
  | 0 => .long
  | 1 => .long
  | 2 => .long
  | _ => .long
abbrev wsX00 : List Cond := u_ws RX0 TX0 4
theorem nmX0 : ∀ a, a < 4 → ∀ b, b < 4 → a ≠ b → (TX0 a).2.1 ≠ (TX0 b).2.1 := by decide +kernel
theorem tyX0_ok : ∀ k, k < 4 → parseFieldDescriptor (TX0 k).2.2.1 = some (tyX0 k) := by decide +kernel
abbrev cX0_init : ByteArray := prog_2_method_1_code
def yX0_init : MethodName := ⟨RX0, "<init>", "()V"⟩
abbrev cX0_take : ByteArray := prog_2_method_2_code
def yX0_take : MethodName := ⟨RX0, "take", "(LPastAndClear$Approach;)V"⟩
abbrev cX0_isRisk : ByteArray := prog_2_method_3_code
def yX0_isRisk : MethodName := ⟨RX0, "isRisk", "(JJ)Z"⟩
abbrev cX0_isPastAndClear : ByteArray := prog_2_method_4_code
def yX0_isPastAndClear : MethodName := ⟨RX0, "isPastAndClear", "(J)Z"⟩
abbrev cX0_isWorse : ByteArray := prog_2_method_5_code
def yX0_isWorse : MethodName := ⟨RX0, "isWorse", "(LPastAndClear$Approach;)Z"⟩
abbrev cX0_part : ByteArray := prog_2_method_6_code
def yX0_part : MethodName := ⟨RX0, "part", "(I)J"⟩
abbrev cX0_lowest : ByteArray := prog_2_method_7_code
def yX0_lowest : MethodName := ⟨RX0, "lowest", "(JJZ)J"⟩
abbrev cX0_sharedDivisor : ByteArray := prog_2_method_8_code
def yX0_sharedDivisor : MethodName := ⟨RX0, "sharedDivisor", "(JJ)J"⟩
def RX1 : String := "PastAndClear$Fleet"
def TX1 : u_T := fun k => match k with
  | 0 => ("PastAndClear$Fleet", "cells", "[I", true)
  | 1 => ("PastAndClear$Fleet", "approach", "LPastAndClear$Approach;", true)
  | _ => ("PastAndClear$Fleet", "worstYet", "LPastAndClear$Approach;", true)
def tyX1 : Nat → FieldType := fun k => match k with
  | 0 => .array .int
  | 1 => .object "PastAndClear$Approach"
  | _ => .object "PastAndClear$Approach"
abbrev wsX10 : List Cond := u_ws RX1 TX1 3
theorem nmX1 : ∀ a, a < 3 → ∀ b, b < 3 → a ≠ b → (TX1 a).2.1 ≠ (TX1 b).2.1 := by decide +kernel
theorem tyX1_ok : ∀ k, k < 3 → parseFieldDescriptor (TX1 k).2.2.1 = some (tyX1 k) := by decide +kernel
abbrev cX1_init : ByteArray := prog_3_method_1_code
def yX1_init : MethodName := ⟨RX1, "<init>", "()V"⟩
abbrev cX1_others : ByteArray := prog_3_method_2_code
def yX1_others : MethodName := ⟨RX1, "others", "()I"⟩
abbrev cX1_isShip : ByteArray := prog_3_method_3_code
def yX1_isShip : MethodName := ⟨RX1, "isShip", "(I)Z"⟩
abbrev cX1_isOther : ByteArray := prog_3_method_4_code
def yX1_isOther : MethodName := ⟨RX1, "isOther", "(I)Z"⟩
abbrev cX1_isPair : ByteArray := prog_3_method_5_code
def yX1_isPair : MethodName := ⟨RX1, "isPair", "(II)Z"⟩
abbrev cX1_dutyTo : ByteArray := prog_3_method_6_code
def yX1_dutyTo : MethodName := ⟨RX1, "dutyTo", "(I)I"⟩
abbrev cX1_countOf : ByteArray := prog_3_method_7_code
def yX1_countOf : MethodName := ⟨RX1, "countOf", "(I)I"⟩
abbrev cX1_partOf : ByteArray := prog_3_method_8_code
def yX1_partOf : MethodName := ⟨RX1, "partOf", "(II)I"⟩
abbrev cX1_eastward : ByteArray := prog_3_method_9_code
def yX1_eastward : MethodName := ⟨RX1, "eastward", "(I)I"⟩
abbrev cX1_northward : ByteArray := prog_3_method_10_code
def yX1_northward : MethodName := ⟨RX1, "northward", "(I)I"⟩
abbrev cX1_join : ByteArray := prog_3_method_11_code
def yX1_join : MethodName := ⟨RX1, "join", "(IIII)I"⟩
abbrev cX1_placeOwn : ByteArray := prog_3_method_12_code
def yX1_placeOwn : MethodName := ⟨RX1, "placeOwn", "(IIII)I"⟩
abbrev cX1_put : ByteArray := prog_3_method_13_code
def yX1_put : MethodName := ⟨RX1, "put", "(IIIII)V"⟩
abbrev cX1_leave : ByteArray := prog_3_method_14_code
def yX1_leave : MethodName := ⟨RX1, "leave", "(I)I"⟩
abbrev cX1_steer : ByteArray := prog_3_method_15_code
def yX1_steer : MethodName := ⟨RX1, "steer", "(III)I"⟩
abbrev cX1_setRule : ByteArray := prog_3_method_16_code
def yX1_setRule : MethodName := ⟨RX1, "setRule", "(II)I"⟩
abbrev cX1_goOn : ByteArray := prog_3_method_17_code
def yX1_goOn : MethodName := ⟨RX1, "goOn", "(I)I"⟩
abbrev cX1_staysInside : ByteArray := prog_3_method_18_code
def yX1_staysInside : MethodName := ⟨RX1, "staysInside", "(I)Z"⟩
abbrev cX1_moveAll : ByteArray := prog_3_method_19_code
def yX1_moveAll : MethodName := ⟨RX1, "moveAll", "()V"⟩
abbrev cX1_look : ByteArray := prog_3_method_20_code
def yX1_look : MethodName := ⟨RX1, "look", "()V"⟩
abbrev cX1_givenWay : ByteArray := prog_3_method_21_code
def yX1_givenWay : MethodName := ⟨RX1, "givenWay", "()I"⟩
abbrev cX1_follow : ByteArray := prog_3_method_22_code
def yX1_follow : MethodName := ⟨RX1, "follow", "(I)I"⟩
abbrev cX1_approachOf : ByteArray := prog_3_method_23_code
def yX1_approachOf : MethodName := ⟨RX1, "approachOf", "(II)LPastAndClear$Approach;"⟩
abbrev cX1_haveRisk : ByteArray := prog_3_method_24_code
def yX1_haveRisk : MethodName := ⟨RX1, "haveRisk", "(II)Z"⟩
abbrev cX1_wouldRisk : ByteArray := prog_3_method_25_code
def yX1_wouldRisk : MethodName := ⟨RX1, "wouldRisk", "(IIII)Z"⟩
abbrev cX1_measure : ByteArray := prog_3_method_26_code
def yX1_measure : MethodName := ⟨RX1, "measure", "(IIII)V"⟩
abbrev cX1_sectorOf : ByteArray := prog_3_method_27_code
def yX1_sectorOf : MethodName := ⟨RX1, "sectorOf", "(II)I"⟩
abbrev cX1_tableOf : ByteArray := prog_3_method_28_code
def yX1_tableOf : MethodName := ⟨RX1, "tableOf", "(II)I"⟩
abbrev cX1_worstOther : ByteArray := prog_3_method_29_code
def yX1_worstOther : MethodName := ⟨RX1, "worstOther", "()I"⟩
abbrev cX1_isClear : ByteArray := prog_3_method_30_code
def yX1_isClear : MethodName := ⟨RX1, "isClear", "(III)Z"⟩
abbrev cX1_blockedBy : ByteArray := prog_3_method_31_code
def yX1_blockedBy : MethodName := ⟨RX1, "blockedBy", "(I)I"⟩
abbrev cX1_adviceFor : ByteArray := prog_3_method_32_code
def yX1_adviceFor : MethodName := ⟨RX1, "adviceFor", "(I)I"⟩
abbrev cX1_mustGiveWay : ByteArray := prog_3_method_33_code
def yX1_mustGiveWay : MethodName := ⟨RX1, "mustGiveWay", "(I)Z"⟩
abbrev cX1_turnFor : ByteArray := prog_3_method_34_code
def yX1_turnFor : MethodName := ⟨RX1, "turnFor", "(I)I"⟩
abbrev cX1_foldShip : ByteArray := prog_3_method_35_code
def yX1_foldShip : MethodName := ⟨RX1, "foldShip", "(JI)J"⟩
abbrev cX1_foldOther : ByteArray := prog_3_method_36_code
def yX1_foldOther : MethodName := ⟨RX1, "foldOther", "(JI)J"⟩
abbrev cX1_isPlace : ByteArray := prog_3_method_37_code
def yX1_isPlace : MethodName := ⟨RX1, "isPlace", "(I)Z"⟩
def RX2 : String := "PastAndClear$History"
def TX2 : u_T := fun k => match k with
  | 0 => ("PastAndClear$History", "rows", "[I", true)
  | _ => ("PastAndClear$History", "kept", "I", false)
def tyX2 : Nat → FieldType := fun k => match k with
  | 0 => .array .int
  | _ => .int
abbrev wsX20 : List Cond := u_ws RX2 TX2 2
theorem nmX2 : ∀ a, a < 2 → ∀ b, b < 2 → a ≠ b → (TX2 a).2.1 ≠ (TX2 b).2.1 := by decide +kernel
theorem tyX2_ok : ∀ k, k < 2 → parseFieldDescriptor (TX2 k).2.2.1 = some (tyX2 k) := by decide +kernel
abbrev cX2_init : ByteArray := prog_4_method_1_code
def yX2_init : MethodName := ⟨RX2, "<init>", "()V"⟩
abbrev cX2_mark : ByteArray := prog_4_method_2_code
def yX2_mark : MethodName := ⟨RX2, "mark", "([I)V"⟩
abbrev cX2_restore : ByteArray := prog_4_method_3_code
def yX2_restore : MethodName := ⟨RX2, "restore", "([I)V"⟩
abbrev cX2_keep : ByteArray := prog_4_method_4_code
def yX2_keep : MethodName := ⟨RX2, "keep", "()V"⟩
abbrev cX2_takeBack : ByteArray := prog_4_method_5_code
def yX2_takeBack : MethodName := ⟨RX2, "takeBack", "([I)V"⟩
def RX3 : String := "PastAndClear$Script"
def TX3 : u_T := fun k => match k with
  | 0 => ("PastAndClear$Script", "bytes", "[B", true)
  | 1 => ("PastAndClear$Script", "length", "I", false)
  | 2 => ("PastAndClear$Script", "at", "I", false)
  | 3 => ("PastAndClear$Script", "kind", "I", false)
  | _ => ("PastAndClear$Script", "numbers", "[I", true)
def tyX3 : Nat → FieldType := fun k => match k with
  | 0 => .array .byte
  | 1 => .int
  | 2 => .int
  | 3 => .int
  | _ => .array .int
abbrev wsX30 : List Cond := u_ws RX3 TX3 5
theorem nmX3 : ∀ a, a < 5 → ∀ b, b < 5 → a ≠ b → (TX3 a).2.1 ≠ (TX3 b).2.1 := by decide +kernel
theorem tyX3_ok : ∀ k, k < 5 → parseFieldDescriptor (TX3 k).2.2.1 = some (tyX3 k) := by decide +kernel
abbrev cX3_init : ByteArray := prog_5_method_1_code
def yX3_init : MethodName := ⟨RX3, "<init>", "()V"⟩
abbrev cX3_append : ByteArray := prog_5_method_2_code
def yX3_append : MethodName := ⟨RX3, "append", "(I)I"⟩
abbrev cX3_empty : ByteArray := prog_5_method_3_code
def yX3_empty : MethodName := ⟨RX3, "empty", "()I"⟩
abbrev cX3_faultPlace : ByteArray := prog_5_method_4_code
def yX3_faultPlace : MethodName := ⟨RX3, "faultPlace", "()I"⟩
abbrev cX3_rewind : ByteArray := prog_5_method_5_code
def yX3_rewind : MethodName := ⟨RX3, "rewind", "()V"⟩
abbrev cX3_hasMore : ByteArray := prog_5_method_6_code
def yX3_hasMore : MethodName := ⟨RX3, "hasMore", "()Z"⟩
abbrev cX3_readOrder : ByteArray := prog_5_method_7_code
def yX3_readOrder : MethodName := ⟨RX3, "readOrder", "()Z"⟩
abbrev cX3_readNumber : ByteArray := prog_5_method_8_code
def yX3_readNumber : MethodName := ⟨RX3, "readNumber", "(IZ)Z"⟩
abbrev cX3_skipBlanks : ByteArray := prog_5_method_9_code
def yX3_skipBlanks : MethodName := ⟨RX3, "skipBlanks", "()V"⟩
abbrev cX3_next : ByteArray := prog_5_method_10_code
def yX3_next : MethodName := ⟨RX3, "next", "()I"⟩
abbrev cX3_isFigure : ByteArray := prog_5_method_11_code
def yX3_isFigure : MethodName := ⟨RX3, "isFigure", "(I)Z"⟩
abbrev cX3_numbersOf : ByteArray := prog_5_method_12_code
def yX3_numbersOf : MethodName := ⟨RX3, "numbersOf", "(I)I"⟩
def RX4 : String := "PastAndClear"
def TX4 : u_T := fun k => match k with
  | 0 => ("PastAndClear", "fleet", "LPastAndClear$Fleet;", true)
  | 1 => ("PastAndClear", "history", "LPastAndClear$History;", true)
  | 2 => ("PastAndClear", "script", "LPastAndClear$Script;", true)
  | 3 => ("PastAndClear", "bads", "I", false)
  | 4 => ("PastAndClear", "noes", "I", false)
  | _ => ("PastAndClear", "fulls", "I", false)
def tyX4 : Nat → FieldType := fun k => match k with
  | 0 => .object "PastAndClear$Fleet"
  | 1 => .object "PastAndClear$History"
  | 2 => .object "PastAndClear$Script"
  | 3 => .int
  | 4 => .int
  | _ => .int
abbrev wsX40 : List Cond := u_ws RX4 TX4 6
theorem nmX4 : ∀ a, a < 6 → ∀ b, b < 6 → a ≠ b → (TX4 a).2.1 ≠ (TX4 b).2.1 := by decide +kernel
theorem tyX4_ok : ∀ k, k < 6 → parseFieldDescriptor (TX4 k).2.2.1 = some (tyX4 k) := by decide +kernel
abbrev cX4_init : ByteArray := prog_1_method_1_code
def yX4_init : MethodName := ⟨RX4, "<init>", "()V"⟩
abbrev cX4_adds : ByteArray := prog_1_method_2_code
def yX4_adds : MethodName := ⟨RX4, "adds", "(IIII)I"⟩
abbrev cX4_own : ByteArray := prog_1_method_3_code
def yX4_own : MethodName := ⟨RX4, "own", "(IIII)I"⟩
abbrev cX4_drops : ByteArray := prog_1_method_4_code
def yX4_drops : MethodName := ⟨RX4, "drops", "(I)I"⟩
abbrev cX4_veers : ByteArray := prog_1_method_5_code
def yX4_veers : MethodName := ⟨RX4, "veers", "(III)I"⟩
abbrev cX4_sets : ByteArray := prog_1_method_6_code
def yX4_sets : MethodName := ⟨RX4, "sets", "(II)I"⟩
abbrev cX4_steps : ByteArray := prog_1_method_7_code
def yX4_steps : MethodName := ⟨RX4, "steps", "(I)I"⟩
abbrev cX4_looks : ByteArray := prog_1_method_8_code
def yX4_looks : MethodName := ⟨RX4, "looks", "()I"⟩
abbrev cX4_obeys : ByteArray := prog_1_method_9_code
def yX4_obeys : MethodName := ⟨RX4, "obeys", "()I"⟩
abbrev cX4_of : ByteArray := prog_1_method_10_code
def yX4_of : MethodName := ⟨RX4, "of", "(II)I"⟩
abbrev cX4_closest : ByteArray := prog_1_method_11_code
def yX4_closest : MethodName := ⟨RX4, "closest", "(III)J"⟩
abbrev cX4_risk : ByteArray := prog_1_method_12_code
def yX4_risk : MethodName := ⟨RX4, "risk", "(II)I"⟩
abbrev cX4_sector : ByteArray := prog_1_method_13_code
def yX4_sector : MethodName := ⟨RX4, "sector", "(II)I"⟩
abbrev cX4_table : ByteArray := prog_1_method_14_code
def yX4_table : MethodName := ⟨RX4, "table", "(II)I"⟩
abbrev cX4_duty : ByteArray := prog_1_method_15_code
def yX4_duty : MethodName := ⟨RX4, "duty", "(I)I"⟩
abbrev cX4_worst : ByteArray := prog_1_method_16_code
def yX4_worst : MethodName := ⟨RX4, "worst", "()I"⟩
abbrev cX4_clear : ByteArray := prog_1_method_17_code
def yX4_clear : MethodName := ⟨RX4, "clear", "(III)I"⟩
abbrev cX4_blocked : ByteArray := prog_1_method_18_code
def yX4_blocked : MethodName := ⟨RX4, "blocked", "(I)I"⟩
abbrev cX4_advice : ByteArray := prog_1_method_19_code
def yX4_advice : MethodName := ⟨RX4, "advice", "(I)I"⟩
abbrev cX4_count : ByteArray := prog_1_method_20_code
def yX4_count : MethodName := ⟨RX4, "count", "(I)I"⟩
abbrev cX4_type : ByteArray := prog_1_method_21_code
def yX4_type : MethodName := ⟨RX4, "type", "(I)I"⟩
abbrev cX4_wipes : ByteArray := prog_1_method_22_code
def yX4_wipes : MethodName := ⟨RX4, "wipes", "()I"⟩
abbrev cX4_does : ByteArray := prog_1_method_23_code
def yX4_does : MethodName := ⟨RX4, "does", "()I"⟩
abbrev cX4_back : ByteArray := prog_1_method_24_code
def yX4_back : MethodName := ⟨RX4, "back", "()I"⟩
abbrev cX4_told : ByteArray := prog_1_method_25_code
def yX4_told : MethodName := ⟨RX4, "told", "(I)I"⟩
abbrev cX4_digest : ByteArray := prog_1_method_26_code
def yX4_digest : MethodName := ⟨RX4, "digest", "()J"⟩
abbrev cX4_perform : ByteArray := prog_1_method_27_code
def yX4_perform : MethodName := ⟨RX4, "perform", "()I"⟩
abbrev cX4_tally : ByteArray := prog_1_method_28_code
def yX4_tally : MethodName := ⟨RX4, "tally", "(I)I"⟩
abbrev cX4_changed : ByteArray := prog_1_method_29_code
def yX4_changed : MethodName := ⟨RX4, "changed", "(I)I"⟩
abbrev cX4_answered : ByteArray := prog_1_method_30_code
def yX4_answered : MethodName := ⟨RX4, "answered", "(I)I"⟩
abbrev cX4_isRefusal : ByteArray := prog_1_method_31_code
def yX4_isRefusal : MethodName := ⟨RX4, "isRefusal", "(I)Z"⟩
abbrev cX4_isCourse : ByteArray := prog_1_method_32_code
def yX4_isCourse : MethodName := ⟨RX4, "isCourse", "(II)Z"⟩
def RX5 : String := "PastAndClearModel"
def TX5 : u_T := fun k => match k with
  | 0 => ("PastAndClearModel", "now", "[I", true)
  | 1 => ("PastAndClearModel", "aside", "[I", true)
  | 2 => ("PastAndClearModel", "past", "[I", true)
  | 3 => ("PastAndClearModel", "states", "I", false)
  | 4 => ("PastAndClearModel", "refusals", "[I", true)
  | 5 => ("PastAndClearModel", "text", "[I", true)
  | 6 => ("PastAndClearModel", "bytes", "I", false)
  | 7 => ("PastAndClearModel", "placeX", "J", false)
  | 8 => ("PastAndClearModel", "placeY", "J", false)
  | 9 => ("PastAndClearModel", "speedX", "J", false)
  | 10 => ("PastAndClearModel", "speedY", "J", false)
  | 11 => ("PastAndClearModel", "timeAbove", "J", false)
  | 12 => ("PastAndClearModel", "timeBelow", "J", false)
  | 13 => ("PastAndClearModel", "farAbove", "J", false)
  | 14 => ("PastAndClearModel", "farBelow", "J", false)
  | 15 => ("PastAndClearModel", "letters", "[I", true)
  | 16 => ("PastAndClearModel", "numbers", "[I", true)
  | 17 => ("PastAndClearModel", "orders", "I", false)
  | 18 => ("PastAndClearModel", "spot", "I", false)
  | 19 => ("PastAndClearModel", "wrongAt", "I", false)
  | _ => ("PastAndClearModel", "hash", "J", false)
def tyX5 : Nat → FieldType := fun k => match k with
  | 0 => .array .int
  | 1 => .array .int
  | 2 => .array .int
  | 3 => .int
  | 4 => .array .int
  | 5 => .array .int
  | 6 => .int
  | 7 => .long
  | 8 => .long
  | 9 => .long
  | 10 => .long
  | 11 => .long
  | 12 => .long
  | 13 => .long
  | 14 => .long
  | 15 => .array .int
  | 16 => .array .int
  | 17 => .int
  | 18 => .int
  | 19 => .int
  | _ => .long
abbrev wsX50 : List Cond := u_ws RX5 TX5 21
theorem nmX5 : ∀ a, a < 21 → ∀ b, b < 21 → a ≠ b → (TX5 a).2.1 ≠ (TX5 b).2.1 := by decide +kernel
theorem tyX5_ok : ∀ k, k < 21 → parseFieldDescriptor (TX5 k).2.2.1 = some (tyX5 k) := by decide +kernel
abbrev cX5_init : ByteArray := prog_7_method_1_code
def yX5_init : MethodName := ⟨RX5, "<init>", "()V"⟩
abbrev cX5_in : ByteArray := prog_7_method_3_code
def yX5_in : MethodName := ⟨RX5, "in", "(III)Z"⟩
abbrev cX5_refuses : ByteArray := prog_7_method_4_code
def yX5_refuses : MethodName := ⟨RX5, "refuses", "(I)I"⟩
abbrev cX5_laysAside : ByteArray := prog_7_method_5_code
def yX5_laysAside : MethodName := ⟨RX5, "laysAside", "()V"⟩
abbrev cX5_remembers : ByteArray := prog_7_method_6_code
def yX5_remembers : MethodName := ⟨RX5, "remembers", "()V"⟩
abbrev cX5_back : ByteArray := prog_7_method_7_code
def yX5_back : MethodName := ⟨RX5, "back", "()I"⟩
abbrev cX5_finished : ByteArray := prog_7_method_8_code
def yX5_finished : MethodName := ⟨RX5, "finished", "(I)I"⟩
abbrev cX5_shipOf : ByteArray := prog_7_method_9_code
def yX5_shipOf : MethodName := ⟨RX5, "shipOf", "(II)I"⟩
abbrev cX5_tells : ByteArray := prog_7_method_10_code
def yX5_tells : MethodName := ⟨RX5, "tells", "(III)V"⟩
abbrev cX5_isShip : ByteArray := prog_7_method_11_code
def yX5_isShip : MethodName := ⟨RX5, "isShip", "(I)Z"⟩
abbrev cX5_isOther : ByteArray := prog_7_method_12_code
def yX5_isOther : MethodName := ⟨RX5, "isOther", "(I)Z"⟩
abbrev cX5_isCourse : ByteArray := prog_7_method_13_code
def yX5_isCourse : MethodName := ⟨RX5, "isCourse", "(II)Z"⟩
abbrev cX5_isPlace : ByteArray := prog_7_method_14_code
def yX5_isPlace : MethodName := ⟨RX5, "isPlace", "(II)Z"⟩
abbrev cX5_northOf : ByteArray := prog_7_method_15_code
def yX5_northOf : MethodName := ⟨RX5, "northOf", "(I)I"⟩
abbrev cX5_eastOf : ByteArray := prog_7_method_16_code
def yX5_eastOf : MethodName := ⟨RX5, "eastOf", "(I)I"⟩
abbrev cX5_lays : ByteArray := prog_7_method_17_code
def yX5_lays : MethodName := ⟨RX5, "lays", "(IIII)V"⟩
abbrev cX5_laysAsTheyAre : ByteArray := prog_7_method_18_code
def yX5_laysAsTheyAre : MethodName := ⟨RX5, "laysAsTheyAre", "(II)V"⟩
abbrev cX5_towards : ByteArray := prog_7_method_19_code
def yX5_towards : MethodName := ⟨RX5, "towards", "()J"⟩
abbrev cX5_squareAway : ByteArray := prog_7_method_20_code
def yX5_squareAway : MethodName := ⟨RX5, "squareAway", "()J"⟩
abbrev cX5_common : ByteArray := prog_7_method_21_code
def yX5_common : MethodName := ⟨RX5, "common", "(JJ)J"⟩
abbrev cX5_findsClosest : ByteArray := prog_7_method_22_code
def yX5_findsClosest : MethodName := ⟨RX5, "findsClosest", "()V"⟩
abbrev cX5_isRisk : ByteArray := prog_7_method_23_code
def yX5_isRisk : MethodName := ⟨RX5, "isRisk", "()Z"⟩
abbrev cX5_haveRisk : ByteArray := prog_7_method_24_code
def yX5_haveRisk : MethodName := ⟨RX5, "haveRisk", "(II)Z"⟩
abbrev cX5_sectorOf : ByteArray := prog_7_method_25_code
def yX5_sectorOf : MethodName := ⟨RX5, "sectorOf", "(II)I"⟩
abbrev cX5_tableOf : ByteArray := prog_7_method_26_code
def yX5_tableOf : MethodName := ⟨RX5, "tableOf", "(II)I"⟩
abbrev cX5_putOther : ByteArray := prog_7_method_27_code
def yX5_putOther : MethodName := ⟨RX5, "putOther", "(IIII)I"⟩
abbrev cX5_puts : ByteArray := prog_7_method_28_code
def yX5_puts : MethodName := ⟨RX5, "puts", "(IIIII)V"⟩
abbrev cX5_putOwn : ByteArray := prog_7_method_29_code
def yX5_putOwn : MethodName := ⟨RX5, "putOwn", "(IIII)I"⟩
abbrev cX5_putAway : ByteArray := prog_7_method_30_code
def yX5_putAway : MethodName := ⟨RX5, "putAway", "(I)I"⟩
abbrev cX5_putCourse : ByteArray := prog_7_method_31_code
def yX5_putCourse : MethodName := ⟨RX5, "putCourse", "(III)I"⟩
abbrev cX5_putSetting : ByteArray := prog_7_method_32_code
def yX5_putSetting : MethodName := ⟨RX5, "putSetting", "(II)I"⟩
abbrev cX5_isPastAndClear : ByteArray := prog_7_method_33_code
def yX5_isPastAndClear : MethodName := ⟨RX5, "isPastAndClear", "(I)Z"⟩
abbrev cX5_look : ByteArray := prog_7_method_34_code
def yX5_look : MethodName := ⟨RX5, "look", "()I"⟩
abbrev cX5_eastSpeed : ByteArray := prog_7_method_35_code
def yX5_eastSpeed : MethodName := ⟨RX5, "eastSpeed", "(I)I"⟩
abbrev cX5_northSpeed : ByteArray := prog_7_method_36_code
def yX5_northSpeed : MethodName := ⟨RX5, "northSpeed", "(I)I"⟩
abbrev cX5_putSteps : ByteArray := prog_7_method_37_code
def yX5_putSteps : MethodName := ⟨RX5, "putSteps", "(I)I"⟩
abbrev cX5_isClear : ByteArray := prog_7_method_38_code
def yX5_isClear : MethodName := ⟨RX5, "isClear", "(III)Z"⟩
abbrev cX5_mustGiveWay : ByteArray := prog_7_method_39_code
def yX5_mustGiveWay : MethodName := ⟨RX5, "mustGiveWay", "(I)Z"⟩
abbrev cX5_adviceFor : ByteArray := prog_7_method_40_code
def yX5_adviceFor : MethodName := ⟨RX5, "adviceFor", "(I)I"⟩
abbrev cX5_putObeyed : ByteArray := prog_7_method_41_code
def yX5_putObeyed : MethodName := ⟨RX5, "putObeyed", "()I"⟩
abbrev cX5_adds : ByteArray := prog_7_method_42_code
def yX5_adds : MethodName := ⟨RX5, "adds", "(IIII)I"⟩
abbrev cX5_own : ByteArray := prog_7_method_43_code
def yX5_own : MethodName := ⟨RX5, "own", "(IIII)I"⟩
abbrev cX5_drops : ByteArray := prog_7_method_44_code
def yX5_drops : MethodName := ⟨RX5, "drops", "(I)I"⟩
abbrev cX5_veers : ByteArray := prog_7_method_45_code
def yX5_veers : MethodName := ⟨RX5, "veers", "(III)I"⟩
abbrev cX5_sets : ByteArray := prog_7_method_46_code
def yX5_sets : MethodName := ⟨RX5, "sets", "(II)I"⟩
abbrev cX5_steps : ByteArray := prog_7_method_47_code
def yX5_steps : MethodName := ⟨RX5, "steps", "(I)I"⟩
abbrev cX5_looks : ByteArray := prog_7_method_48_code
def yX5_looks : MethodName := ⟨RX5, "looks", "()I"⟩
abbrev cX5_obeys : ByteArray := prog_7_method_49_code
def yX5_obeys : MethodName := ⟨RX5, "obeys", "()I"⟩
abbrev cX5_told0 : ByteArray := prog_7_method_50_code
def yX5_told0 : MethodName := ⟨RX5, "told0", "(II)I"⟩
abbrev cX5_of : ByteArray := prog_7_method_51_code
def yX5_of : MethodName := ⟨RX5, "of", "(II)I"⟩
abbrev cX5_areTwo : ByteArray := prog_7_method_52_code
def yX5_areTwo : MethodName := ⟨RX5, "areTwo", "(II)Z"⟩
abbrev cX5_closestOf : ByteArray := prog_7_method_53_code
def yX5_closestOf : MethodName := ⟨RX5, "closestOf", "(III)J"⟩
abbrev cX5_closest : ByteArray := prog_7_method_54_code
def yX5_closest : MethodName := ⟨RX5, "closest", "(III)J"⟩
abbrev cX5_risk : ByteArray := prog_7_method_55_code
def yX5_risk : MethodName := ⟨RX5, "risk", "(II)I"⟩
abbrev cX5_sector : ByteArray := prog_7_method_56_code
def yX5_sector : MethodName := ⟨RX5, "sector", "(II)I"⟩
abbrev cX5_table : ByteArray := prog_7_method_57_code
def yX5_table : MethodName := ⟨RX5, "table", "(II)I"⟩
abbrev cX5_duty : ByteArray := prog_7_method_58_code
def yX5_duty : MethodName := ⟨RX5, "duty", "(I)I"⟩
abbrev cX5_worst : ByteArray := prog_7_method_59_code
def yX5_worst : MethodName := ⟨RX5, "worst", "()I"⟩
abbrev cX5_clear : ByteArray := prog_7_method_60_code
def yX5_clear : MethodName := ⟨RX5, "clear", "(III)I"⟩
abbrev cX5_blockedBy : ByteArray := prog_7_method_61_code
def yX5_blockedBy : MethodName := ⟨RX5, "blockedBy", "(I)I"⟩
abbrev cX5_blocked : ByteArray := prog_7_method_62_code
def yX5_blocked : MethodName := ⟨RX5, "blocked", "(I)I"⟩
abbrev cX5_advice : ByteArray := prog_7_method_63_code
def yX5_advice : MethodName := ⟨RX5, "advice", "(I)I"⟩
abbrev cX5_countOf : ByteArray := prog_7_method_64_code
def yX5_countOf : MethodName := ⟨RX5, "countOf", "(I)I"⟩
abbrev cX5_count : ByteArray := prog_7_method_65_code
def yX5_count : MethodName := ⟨RX5, "count", "(I)I"⟩
abbrev cX5_type : ByteArray := prog_7_method_66_code
def yX5_type : MethodName := ⟨RX5, "type", "(I)I"⟩
abbrev cX5_wipes : ByteArray := prog_7_method_67_code
def yX5_wipes : MethodName := ⟨RX5, "wipes", "()I"⟩
abbrev cX5_isAt : ByteArray := prog_7_method_68_code
def yX5_isAt : MethodName := ⟨RX5, "isAt", "(II)Z"⟩
abbrev cX5_blanks : ByteArray := prog_7_method_69_code
def yX5_blanks : MethodName := ⟨RX5, "blanks", "()V"⟩
abbrev cX5_fails : ByteArray := prog_7_method_70_code
def yX5_fails : MethodName := ⟨RX5, "fails", "()Z"⟩
abbrev cX5_manyOf : ByteArray := prog_7_method_71_code
def yX5_manyOf : MethodName := ⟨RX5, "manyOf", "(I)I"⟩
abbrev cX5_takesNumber : ByteArray := prog_7_method_72_code
def yX5_takesNumber : MethodName := ⟨RX5, "takesNumber", "(IZ)Z"⟩
abbrev cX5_takesOrder : ByteArray := prog_7_method_73_code
def yX5_takesOrder : MethodName := ⟨RX5, "takesOrder", "()Z"⟩
abbrev cX5_isRead : ByteArray := prog_7_method_74_code
def yX5_isRead : MethodName := ⟨RX5, "isRead", "()Z"⟩
abbrev cX5_doneOne : ByteArray := prog_7_method_75_code
def yX5_doneOne : MethodName := ⟨RX5, "doneOne", "(I)I"⟩
abbrev cX5_does : ByteArray := prog_7_method_76_code
def yX5_does : MethodName := ⟨RX5, "does", "()I"⟩
abbrev cX5_toldOf : ByteArray := prog_7_method_77_code
def yX5_toldOf : MethodName := ⟨RX5, "toldOf", "(I)I"⟩
abbrev cX5_told : ByteArray := prog_7_method_78_code
def yX5_told : MethodName := ⟨RX5, "told", "(I)I"⟩
abbrev cX5_mix : ByteArray := prog_7_method_79_code
def yX5_mix : MethodName := ⟨RX5, "mix", "(J)V"⟩
abbrev cX5_digest : ByteArray := prog_7_method_80_code
def yX5_digest : MethodName := ⟨RX5, "digest", "()J"⟩
def RJ9 : String := "java/lang/Math"
def TJ9 : u_T := fun k => match k with
  | _ => ("", "", "", false)
def tyJ9 : Nat → FieldType := fun k => match k with
  | _ => .int
abbrev wsJ90 : List Cond := u_ws RJ9 TJ9 0
theorem nmJ9 : ∀ a, a < 0 → ∀ b, b < 0 → a ≠ b → (TJ9 a).2.1 ≠ (TJ9 b).2.1 := by decide +kernel
theorem tyJ9_ok : ∀ k, k < 0 → parseFieldDescriptor (TJ9 k).2.2.1 = some (tyJ9 k) := by decide +kernel
abbrev cJ9_abs_0f7a4 : ByteArray := prog_8_method_59_code
def yJ9_abs_0f7a4 : MethodName := ⟨RJ9, "abs", "(I)I"⟩
def RJ10 : String := "java/lang/System"
def TJ10 : u_T := fun k => match k with
  | _ => ("", "", "", false)
def tyJ10 : Nat → FieldType := fun k => match k with
  | _ => .int
abbrev wsJ100 : List Cond := u_ws RJ10 TJ10 0
theorem nmJ10 : ∀ a, a < 0 → ∀ b, b < 0 → a ≠ b → (TJ10 a).2.1 ≠ (TJ10 b).2.1 := by decide +kernel
theorem tyJ10_ok : ∀ k, k < 0 → parseFieldDescriptor (TJ10 k).2.2.1 = some (tyJ10 k) := by decide +kernel
def RL : String := "PastAndClearLaw"
abbrev cL_law : ByteArray := code
def yL_law : MethodName := ⟨RL, "law", "([I)Z"⟩
def wsX0_init : List Cond := .code yX0_init cX0_init 1 none :: ([.methodLink RX0 1 objectInit, .instanceMethod objectInit, .code objectInit ⟨#[0xb1]⟩ 1 none, .fieldLink RX0 7 "PastAndClear$Approach" "timeBelow" "J", .fieldLink RX0 13 "PastAndClear$Approach" "nearBelow" "J"] ++ wsX00)
def wsX0_take : List Cond := .code yX0_take cX0_take 2 none :: ([.fieldLink RX0 16 "PastAndClear$Approach" "timeAbove" "J", .fieldLink RX0 7 "PastAndClear$Approach" "timeBelow" "J", .fieldLink RX0 19 "PastAndClear$Approach" "nearAbove" "J", .fieldLink RX0 13 "PastAndClear$Approach" "nearBelow" "J"] ++ wsX00)
def wsX0_isRisk : List Cond := .code yX0_isRisk cX0_isRisk 5 (some .boolean) :: ([.fieldLink RX0 19 "PastAndClear$Approach" "nearAbove" "J", .fieldLink RX0 13 "PastAndClear$Approach" "nearBelow" "J", .fieldLink RX0 16 "PastAndClear$Approach" "timeAbove" "J", .fieldLink RX0 7 "PastAndClear$Approach" "timeBelow" "J"] ++ wsX00)
def wsX0_isPastAndClear : List Cond := .code yX0_isPastAndClear cX0_isPastAndClear 3 (some .boolean) :: ([.fieldLink RX0 16 "PastAndClear$Approach" "timeAbove" "J", .fieldLink RX0 19 "PastAndClear$Approach" "nearAbove" "J"] ++ wsX00)
def wsX0_isWorse : List Cond := .code yX0_isWorse cX0_isWorse 4 (some .boolean) :: ([.fieldLink RX0 16 "PastAndClear$Approach" "timeAbove" "J", .fieldLink RX0 7 "PastAndClear$Approach" "timeBelow" "J", .fieldLink RX0 19 "PastAndClear$Approach" "nearAbove" "J", .fieldLink RX0 13 "PastAndClear$Approach" "nearBelow" "J"] ++ wsX00)
def wsX0_sharedDivisor : List Cond := .code yX0_sharedDivisor cX0_sharedDivisor 7 (some .long) :: ([])
def wsX0_lowest : List Cond := .code yX0_lowest cX0_lowest 7 (some .long) :: ([.methodLink RX0 26 yX0_sharedDivisor, .static yX0_sharedDivisor, .initialized RX0, .code yX0_sharedDivisor cX0_sharedDivisor 7 (some .long)])
def wsX0_part : List Cond := .code yX0_part cX0_part 2 (some .long) :: ([.fieldLink RX0 16 "PastAndClear$Approach" "timeAbove" "J", .fieldLink RX0 7 "PastAndClear$Approach" "timeBelow" "J", .fieldLink RX0 19 "PastAndClear$Approach" "nearAbove" "J", .fieldLink RX0 13 "PastAndClear$Approach" "nearBelow" "J", .methodLink RX0 22 yX0_lowest, .static yX0_lowest, .initialized RX0, .code yX0_lowest cX0_lowest 7 (some .long), .methodLink RX0 26 yX0_sharedDivisor, .static yX0_sharedDivisor, .code yX0_sharedDivisor cX0_sharedDivisor 7 (some .long)] ++ wsX00)
def wsX1_init : List Cond := .code yX1_init cX1_init 1 none :: ([.methodLink RX1 3 objectInit, .instanceMethod objectInit, .code objectInit ⟨#[0xb1]⟩ 1 none, .arrayClass .int, .fieldLink RX1 11 "PastAndClear$Fleet" "cells" "[I", .classLink RX1 15 RX0, .instantiable RX0 4, .initialized RX0, .fieldLink RX1 18 "PastAndClear$Fleet" "approach" "LPastAndClear$Approach;", .fieldLink RX1 22 "PastAndClear$Fleet" "worstYet" "LPastAndClear$Approach;", .methodLink RX1 17 yX0_init, .instanceMethod yX0_init, .code yX0_init cX0_init 1 none, .methodLink RX0 1 objectInit, .fieldLink RX0 7 "PastAndClear$Approach" "timeBelow" "J", .fieldLink RX0 13 "PastAndClear$Approach" "nearBelow" "J"] ++ wsX10 ++ wsX00)
def wsX1_others : List Cond := .code yX1_others cX1_others 1 (some .int) :: ([.fieldLink RX1 11 "PastAndClear$Fleet" "cells" "[I"] ++ wsX10)
def wsX1_isShip : List Cond := .code yX1_isShip cX1_isShip 2 (some .boolean) :: ([.fieldLink RX1 11 "PastAndClear$Fleet" "cells" "[I"] ++ wsX10)
def wsX1_isOther : List Cond := .code yX1_isOther cX1_isOther 2 (some .boolean) :: ([.fieldLink RX1 11 "PastAndClear$Fleet" "cells" "[I"] ++ wsX10)
def wsX1_isPair : List Cond := .code yX1_isPair cX1_isPair 3 (some .boolean) :: ([.methodLink RX1 25 yX1_isShip, .instanceMethod yX1_isShip, .selects RX1 yX1_isShip yX1_isShip, .initialized RX1, .code yX1_isShip cX1_isShip 2 (some .boolean), .fieldLink RX1 11 "PastAndClear$Fleet" "cells" "[I"] ++ wsX10)
def wsX1_dutyTo : List Cond := .code yX1_dutyTo cX1_dutyTo 2 (some .int) :: ([.fieldLink RX1 11 "PastAndClear$Fleet" "cells" "[I"] ++ wsX10)
def wsX1_countOf : List Cond := .code yX1_countOf cX1_countOf 2 (some .int) :: ([.fieldLink RX1 11 "PastAndClear$Fleet" "cells" "[I"] ++ wsX10)
def wsX1_eastward : List Cond := .code yX1_eastward cX1_eastward 2 (some .int) :: ([.fieldLink RX1 11 "PastAndClear$Fleet" "cells" "[I", .fieldLink RX1 36 "PastAndClear$Fleet" "EAST" "[I"] ++ wsX10)
def wsX1_northward : List Cond := .code yX1_northward cX1_northward 2 (some .int) :: ([.fieldLink RX1 11 "PastAndClear$Fleet" "cells" "[I", .fieldLink RX1 39 "PastAndClear$Fleet" "NORTH" "[I"] ++ wsX10)
def wsX1_partOf : List Cond := .code yX1_partOf cX1_partOf 3 (some .int) :: ([.fieldLink RX1 11 "PastAndClear$Fleet" "cells" "[I", .methodLink RX1 29 yX1_eastward, .instanceMethod yX1_eastward, .selects RX1 yX1_eastward yX1_eastward, .initialized RX1, .code yX1_eastward cX1_eastward 2 (some .int), .fieldLink RX1 36 "PastAndClear$Fleet" "EAST" "[I", .methodLink RX1 33 yX1_northward, .instanceMethod yX1_northward, .selects RX1 yX1_northward yX1_northward, .code yX1_northward cX1_northward 2 (some .int), .fieldLink RX1 39 "PastAndClear$Fleet" "NORTH" "[I"] ++ wsX10)
def wsX1_isPlace : List Cond := .code yX1_isPlace cX1_isPlace 1 (some .boolean) :: ([])
def wsX4_isCourse : List Cond := .code yX4_isCourse cX4_isCourse 2 (some .boolean) :: ([])
def wsX1_put : List Cond := .code yX1_put cX1_put 7 none :: ([.fieldLink RX1 11 "PastAndClear$Fleet" "cells" "[I"] ++ wsX10)
def wsX1_join : List Cond := .code yX1_join cX1_join 5 (some .int) :: ([.fieldLink RX1 11 "PastAndClear$Fleet" "cells" "[I", .methodLink RX1 42 yX1_isPlace, .static yX1_isPlace, .initialized RX1, .code yX1_isPlace cX1_isPlace 1 (some .boolean), .static yX4_isCourse, .initialized RX4, .code yX4_isCourse cX4_isCourse 2 (some .boolean), .methodLink RX1 49 yX1_put, .instanceMethod yX1_put, .selects RX1 yX1_put yX1_put, .code yX1_put cX1_put 7 none] ++ wsX10)
def wsX1_placeOwn : List Cond := .code yX1_placeOwn cX1_placeOwn 6 (some .int) :: ([.fieldLink RX1 11 "PastAndClear$Fleet" "cells" "[I", .methodLink RX1 42 yX1_isPlace, .static yX1_isPlace, .initialized RX1, .code yX1_isPlace cX1_isPlace 1 (some .boolean), .static yX4_isCourse, .initialized RX4, .code yX4_isCourse cX4_isCourse 2 (some .boolean), .methodLink RX1 49 yX1_put, .instanceMethod yX1_put, .selects RX1 yX1_put yX1_put, .code yX1_put cX1_put 7 none] ++ wsX10)
def wsX1_leave : List Cond := .code yX1_leave cX1_leave 3 (some .int) :: ([.fieldLink RX1 11 "PastAndClear$Fleet" "cells" "[I", .methodLink RX1 56 arraycopyName, .native arraycopyName, .static arraycopyName, .initialized "java/lang/System", .methodLink RX1 53 yX1_isOther, .instanceMethod yX1_isOther, .selects RX1 yX1_isOther yX1_isOther, .initialized RX1, .code yX1_isOther cX1_isOther 2 (some .boolean)] ++ wsX10)
def wsX1_steer : List Cond := .code yX1_steer cX1_steer 5 (some .int) :: ([.fieldLink RX1 11 "PastAndClear$Fleet" "cells" "[I", .methodLink RX1 25 yX1_isShip, .instanceMethod yX1_isShip, .selects RX1 yX1_isShip yX1_isShip, .initialized RX1, .code yX1_isShip cX1_isShip 2 (some .boolean), .static yX4_isCourse, .initialized RX4, .code yX4_isCourse cX4_isCourse 2 (some .boolean)] ++ wsX10)
def wsX1_setRule : List Cond := .code yX1_setRule cX1_setRule 4 (some .int) :: ([.fieldLink RX1 11 "PastAndClear$Fleet" "cells" "[I"] ++ wsX10)
def wsX1_staysInside : List Cond := .code yX1_staysInside cX1_staysInside 3 (some .boolean) :: ([.fieldLink RX1 11 "PastAndClear$Fleet" "cells" "[I", .methodLink RX1 29 yX1_eastward, .instanceMethod yX1_eastward, .selects RX1 yX1_eastward yX1_eastward, .initialized RX1, .code yX1_eastward cX1_eastward 2 (some .int), .fieldLink RX1 36 "PastAndClear$Fleet" "EAST" "[I", .methodLink RX1 42 yX1_isPlace, .static yX1_isPlace, .code yX1_isPlace cX1_isPlace 1 (some .boolean), .methodLink RX1 33 yX1_northward, .instanceMethod yX1_northward, .selects RX1 yX1_northward yX1_northward, .code yX1_northward cX1_northward 2 (some .int), .fieldLink RX1 39 "PastAndClear$Fleet" "NORTH" "[I"] ++ wsX10)
def wsX1_moveAll : List Cond := .code yX1_moveAll cX1_moveAll 2 none :: ([.fieldLink RX1 11 "PastAndClear$Fleet" "cells" "[I", .methodLink RX1 29 yX1_eastward, .instanceMethod yX1_eastward, .selects RX1 yX1_eastward yX1_eastward, .initialized RX1, .code yX1_eastward cX1_eastward 2 (some .int), .fieldLink RX1 36 "PastAndClear$Fleet" "EAST" "[I", .methodLink RX1 33 yX1_northward, .instanceMethod yX1_northward, .selects RX1 yX1_northward yX1_northward, .code yX1_northward cX1_northward 2 (some .int), .fieldLink RX1 39 "PastAndClear$Fleet" "NORTH" "[I"] ++ wsX10)
def wsX1_measure : List Cond := .code yX1_measure cX1_measure 19 none :: ([.fieldLink RX1 11 "PastAndClear$Fleet" "cells" "[I", .fieldLink RX1 36 "PastAndClear$Fleet" "EAST" "[I", .fieldLink RX1 39 "PastAndClear$Fleet" "NORTH" "[I", .fieldLink RX1 18 "PastAndClear$Fleet" "approach" "LPastAndClear$Approach;", .fieldLink RX1 95 "PastAndClear$Approach" "timeAbove" "J", .fieldLink RX1 99 "PastAndClear$Approach" "timeBelow" "J", .fieldLink RX1 102 "PastAndClear$Approach" "nearAbove" "J", .fieldLink RX1 105 "PastAndClear$Approach" "nearBelow" "J"] ++ wsX10 ++ wsX00)
def wsX1_haveRisk : List Cond := .code yX1_haveRisk cX1_haveRisk 3 (some .boolean) :: ([.fieldLink RX1 11 "PastAndClear$Fleet" "cells" "[I", .fieldLink RX1 18 "PastAndClear$Fleet" "approach" "LPastAndClear$Approach;", .methodLink RX1 87 yX1_measure, .instanceMethod yX1_measure, .selects RX1 yX1_measure yX1_measure, .initialized RX1, .code yX1_measure cX1_measure 19 none, .fieldLink RX1 36 "PastAndClear$Fleet" "EAST" "[I", .fieldLink RX1 39 "PastAndClear$Fleet" "NORTH" "[I", .fieldLink RX1 95 "PastAndClear$Approach" "timeAbove" "J", .fieldLink RX1 99 "PastAndClear$Approach" "timeBelow" "J", .fieldLink RX1 102 "PastAndClear$Approach" "nearAbove" "J", .fieldLink RX1 105 "PastAndClear$Approach" "nearBelow" "J", .methodLink RX1 91 yX0_isRisk, .instanceMethod yX0_isRisk, .selects RX0 yX0_isRisk yX0_isRisk, .initialized RX0, .code yX0_isRisk cX0_isRisk 5 (some .boolean), .fieldLink RX0 19 "PastAndClear$Approach" "nearAbove" "J", .fieldLink RX0 13 "PastAndClear$Approach" "nearBelow" "J", .fieldLink RX0 16 "PastAndClear$Approach" "timeAbove" "J", .fieldLink RX0 7 "PastAndClear$Approach" "timeBelow" "J"] ++ wsX10 ++ wsX00)
def wsX1_sectorOf : List Cond := .code yX1_sectorOf cX1_sectorOf 9 (some .int) :: ([.fieldLink RX1 36 "PastAndClear$Fleet" "EAST" "[I", .fieldLink RX1 11 "PastAndClear$Fleet" "cells" "[I", .fieldLink RX1 39 "PastAndClear$Fleet" "NORTH" "[I", .methodLink RX1 108 Lib.Math.abs.name, .static Lib.Math.abs.name, .initialized "java/lang/Math", .code Lib.Math.abs.name Lib.Math.abs.code 1 (some .int)] ++ wsX10)
def wsX1_tableOf_r1 : List Cond := [Cond.methodLink RX1 113 yX1_haveRisk, Cond.instanceMethod yX1_haveRisk, Cond.selects RX1 yX1_haveRisk yX1_haveRisk, Cond.initialized RX1, Cond.code yX1_haveRisk cX1_haveRisk 3 (some .boolean), Cond.fieldLink RX1 11 "PastAndClear$Fleet" "cells" "[I", Cond.fieldLink RX1 18 "PastAndClear$Fleet" "approach" "LPastAndClear$Approach;", Cond.methodLink RX1 87 yX1_measure, Cond.instanceMethod yX1_measure, Cond.selects RX1 yX1_measure yX1_measure, Cond.code yX1_measure cX1_measure 19 none, Cond.fieldLink RX1 36 "PastAndClear$Fleet" "EAST" "[I", Cond.fieldLink RX1 39 "PastAndClear$Fleet" "NORTH" "[I", Cond.fieldLink RX1 95 "PastAndClear$Approach" "timeAbove" "J", Cond.fieldLink RX1 99 "PastAndClear$Approach" "timeBelow" "J", Cond.fieldLink RX1 102 "PastAndClear$Approach" "nearAbove" "J", Cond.fieldLink RX1 105 "PastAndClear$Approach" "nearBelow" "J", Cond.methodLink RX1 91 yX0_isRisk, Cond.instanceMethod yX0_isRisk, Cond.selects RX0 yX0_isRisk yX0_isRisk, Cond.initialized RX0, Cond.code yX0_isRisk cX0_isRisk 5 (some .boolean), Cond.fieldLink RX0 19 "PastAndClear$Approach" "nearAbove" "J", Cond.fieldLink RX0 13 "PastAndClear$Approach" "nearBelow" "J"]
def wsX1_tableOf_r2 : List Cond := [Cond.fieldLink RX0 16 "PastAndClear$Approach" "timeAbove" "J", Cond.fieldLink RX0 7 "PastAndClear$Approach" "timeBelow" "J", Cond.methodLink RX1 116 yX1_sectorOf, Cond.instanceMethod yX1_sectorOf, Cond.selects RX1 yX1_sectorOf yX1_sectorOf, Cond.code yX1_sectorOf cX1_sectorOf 9 (some .int), Cond.methodLink RX1 108 Lib.Math.abs.name, Cond.static Lib.Math.abs.name, Cond.initialized "java/lang/Math", Cond.code Lib.Math.abs.name Lib.Math.abs.code 1 (some .int)]
def wsX1_tableOf : List Cond := .code yX1_tableOf cX1_tableOf 5 (some .int) :: ((wsX1_tableOf_r1 ++ wsX1_tableOf_r2) ++ wsX10 ++ wsX00)
def wsX1_approachOf : List Cond := .code yX1_approachOf cX1_approachOf 3 (some (.object "PastAndClear$Approach")) :: ([.fieldLink RX1 11 "PastAndClear$Fleet" "cells" "[I", .fieldLink RX1 18 "PastAndClear$Fleet" "approach" "LPastAndClear$Approach;", .methodLink RX1 87 yX1_measure, .instanceMethod yX1_measure, .selects RX1 yX1_measure yX1_measure, .initialized RX1, .code yX1_measure cX1_measure 19 none, .fieldLink RX1 36 "PastAndClear$Fleet" "EAST" "[I", .fieldLink RX1 39 "PastAndClear$Fleet" "NORTH" "[I", .fieldLink RX1 95 "PastAndClear$Approach" "timeAbove" "J", .fieldLink RX1 99 "PastAndClear$Approach" "timeBelow" "J", .fieldLink RX1 102 "PastAndClear$Approach" "nearAbove" "J", .fieldLink RX1 105 "PastAndClear$Approach" "nearBelow" "J"] ++ wsX10 ++ wsX00)
def wsX1_look_r1 : List Cond := [Cond.fieldLink RX1 11 "PastAndClear$Fleet" "cells" "[I", Cond.methodLink RX1 75 yX1_tableOf, Cond.instanceMethod yX1_tableOf, Cond.selects RX1 yX1_tableOf yX1_tableOf, Cond.initialized RX1, Cond.code yX1_tableOf cX1_tableOf 5 (some .int), Cond.methodLink RX1 113 yX1_haveRisk, Cond.instanceMethod yX1_haveRisk, Cond.selects RX1 yX1_haveRisk yX1_haveRisk, Cond.code yX1_haveRisk cX1_haveRisk 3 (some .boolean), Cond.fieldLink RX1 18 "PastAndClear$Fleet" "approach" "LPastAndClear$Approach;", Cond.methodLink RX1 87 yX1_measure, Cond.instanceMethod yX1_measure, Cond.selects RX1 yX1_measure yX1_measure, Cond.code yX1_measure cX1_measure 19 none, Cond.fieldLink RX1 36 "PastAndClear$Fleet" "EAST" "[I", Cond.fieldLink RX1 39 "PastAndClear$Fleet" "NORTH" "[I", Cond.fieldLink RX1 95 "PastAndClear$Approach" "timeAbove" "J", Cond.fieldLink RX1 99 "PastAndClear$Approach" "timeBelow" "J", Cond.fieldLink RX1 102 "PastAndClear$Approach" "nearAbove" "J", Cond.fieldLink RX1 105 "PastAndClear$Approach" "nearBelow" "J", Cond.methodLink RX1 91 yX0_isRisk, Cond.instanceMethod yX0_isRisk, Cond.selects RX0 yX0_isRisk yX0_isRisk]
def wsX1_look_r2 : List Cond := [Cond.initialized RX0, Cond.code yX0_isRisk cX0_isRisk 5 (some .boolean), Cond.fieldLink RX0 19 "PastAndClear$Approach" "nearAbove" "J", Cond.fieldLink RX0 13 "PastAndClear$Approach" "nearBelow" "J", Cond.fieldLink RX0 16 "PastAndClear$Approach" "timeAbove" "J", Cond.fieldLink RX0 7 "PastAndClear$Approach" "timeBelow" "J", Cond.methodLink RX1 116 yX1_sectorOf, Cond.instanceMethod yX1_sectorOf, Cond.selects RX1 yX1_sectorOf yX1_sectorOf, Cond.code yX1_sectorOf cX1_sectorOf 9 (some .int), Cond.methodLink RX1 108 Lib.Math.abs.name, Cond.static Lib.Math.abs.name, Cond.initialized "java/lang/Math", Cond.code Lib.Math.abs.name Lib.Math.abs.code 1 (some .int), Cond.methodLink RX1 79 yX1_approachOf, Cond.instanceMethod yX1_approachOf, Cond.selects RX1 yX1_approachOf yX1_approachOf, Cond.code yX1_approachOf cX1_approachOf 3 (some (.object "PastAndClear$Approach")), Cond.methodLink RX1 83 yX0_isPastAndClear, Cond.instanceMethod yX0_isPastAndClear, Cond.selects RX0 yX0_isPastAndClear yX0_isPastAndClear, Cond.code yX0_isPastAndClear cX0_isPastAndClear 3 (some .boolean)]
def wsX1_look : List Cond := .code yX1_look cX1_look 2 none :: ((wsX1_look_r1 ++ wsX1_look_r2) ++ wsX10 ++ wsX00)
def wsX1_givenWay : List Cond := .code yX1_givenWay cX1_givenWay 3 (some .int) :: ([.fieldLink RX1 11 "PastAndClear$Fleet" "cells" "[I"] ++ wsX10)
def wsX1_goOn_r1 : List Cond := [Cond.fieldLink RX1 11 "PastAndClear$Fleet" "cells" "[I", Cond.methodLink RX1 62 yX1_staysInside, Cond.instanceMethod yX1_staysInside, Cond.selects RX1 yX1_staysInside yX1_staysInside, Cond.initialized RX1, Cond.code yX1_staysInside cX1_staysInside 3 (some .boolean), Cond.methodLink RX1 29 yX1_eastward, Cond.instanceMethod yX1_eastward, Cond.selects RX1 yX1_eastward yX1_eastward, Cond.code yX1_eastward cX1_eastward 2 (some .int), Cond.fieldLink RX1 36 "PastAndClear$Fleet" "EAST" "[I", Cond.methodLink RX1 42 yX1_isPlace, Cond.static yX1_isPlace, Cond.code yX1_isPlace cX1_isPlace 1 (some .boolean), Cond.methodLink RX1 33 yX1_northward, Cond.instanceMethod yX1_northward, Cond.selects RX1 yX1_northward yX1_northward, Cond.code yX1_northward cX1_northward 2 (some .int), Cond.fieldLink RX1 39 "PastAndClear$Fleet" "NORTH" "[I", Cond.methodLink RX1 65 yX1_moveAll, Cond.instanceMethod yX1_moveAll, Cond.selects RX1 yX1_moveAll yX1_moveAll, Cond.code yX1_moveAll cX1_moveAll 2 none, Cond.methodLink RX1 68 yX1_look]
def wsX1_goOn_r2 : List Cond := [Cond.instanceMethod yX1_look, Cond.selects RX1 yX1_look yX1_look, Cond.code yX1_look cX1_look 2 none, Cond.methodLink RX1 75 yX1_tableOf, Cond.instanceMethod yX1_tableOf, Cond.selects RX1 yX1_tableOf yX1_tableOf, Cond.code yX1_tableOf cX1_tableOf 5 (some .int), Cond.methodLink RX1 113 yX1_haveRisk, Cond.instanceMethod yX1_haveRisk, Cond.selects RX1 yX1_haveRisk yX1_haveRisk, Cond.code yX1_haveRisk cX1_haveRisk 3 (some .boolean), Cond.fieldLink RX1 18 "PastAndClear$Fleet" "approach" "LPastAndClear$Approach;", Cond.methodLink RX1 87 yX1_measure, Cond.instanceMethod yX1_measure, Cond.selects RX1 yX1_measure yX1_measure, Cond.code yX1_measure cX1_measure 19 none, Cond.fieldLink RX1 95 "PastAndClear$Approach" "timeAbove" "J", Cond.fieldLink RX1 99 "PastAndClear$Approach" "timeBelow" "J", Cond.fieldLink RX1 102 "PastAndClear$Approach" "nearAbove" "J", Cond.fieldLink RX1 105 "PastAndClear$Approach" "nearBelow" "J", Cond.methodLink RX1 91 yX0_isRisk, Cond.instanceMethod yX0_isRisk, Cond.selects RX0 yX0_isRisk yX0_isRisk, Cond.initialized RX0]
def wsX1_goOn_r3 : List Cond := [Cond.code yX0_isRisk cX0_isRisk 5 (some .boolean), Cond.fieldLink RX0 19 "PastAndClear$Approach" "nearAbove" "J", Cond.fieldLink RX0 13 "PastAndClear$Approach" "nearBelow" "J", Cond.fieldLink RX0 16 "PastAndClear$Approach" "timeAbove" "J", Cond.fieldLink RX0 7 "PastAndClear$Approach" "timeBelow" "J", Cond.methodLink RX1 116 yX1_sectorOf, Cond.instanceMethod yX1_sectorOf, Cond.selects RX1 yX1_sectorOf yX1_sectorOf, Cond.code yX1_sectorOf cX1_sectorOf 9 (some .int), Cond.methodLink RX1 108 Lib.Math.abs.name, Cond.static Lib.Math.abs.name, Cond.initialized "java/lang/Math", Cond.code Lib.Math.abs.name Lib.Math.abs.code 1 (some .int), Cond.methodLink RX1 79 yX1_approachOf, Cond.instanceMethod yX1_approachOf, Cond.selects RX1 yX1_approachOf yX1_approachOf, Cond.code yX1_approachOf cX1_approachOf 3 (some (.object "PastAndClear$Approach")), Cond.methodLink RX1 83 yX0_isPastAndClear, Cond.instanceMethod yX0_isPastAndClear, Cond.selects RX0 yX0_isPastAndClear yX0_isPastAndClear, Cond.code yX0_isPastAndClear cX0_isPastAndClear 3 (some .boolean), Cond.methodLink RX1 71 yX1_givenWay, Cond.instanceMethod yX1_givenWay, Cond.selects RX1 yX1_givenWay yX1_givenWay]
def wsX1_goOn_r4 : List Cond := [Cond.code yX1_givenWay cX1_givenWay 3 (some .int)]
def wsX1_goOn : List Cond := .code yX1_goOn cX1_goOn 3 (some .int) :: ((wsX1_goOn_r1 ++ (wsX1_goOn_r2 ++ (wsX1_goOn_r3 ++ wsX1_goOn_r4))) ++ wsX10 ++ wsX00)
def wsX1_follow : List Cond := .code yX1_follow cX1_follow 2 (some .int) :: ([.fieldLink RX1 11 "PastAndClear$Fleet" "cells" "[I"] ++ wsX10)
def wsX1_wouldRisk : List Cond := .code yX1_wouldRisk cX1_wouldRisk 5 (some .boolean) :: ([.fieldLink RX1 18 "PastAndClear$Fleet" "approach" "LPastAndClear$Approach;", .fieldLink RX1 11 "PastAndClear$Fleet" "cells" "[I", .methodLink RX1 87 yX1_measure, .instanceMethod yX1_measure, .selects RX1 yX1_measure yX1_measure, .initialized RX1, .code yX1_measure cX1_measure 19 none, .fieldLink RX1 36 "PastAndClear$Fleet" "EAST" "[I", .fieldLink RX1 39 "PastAndClear$Fleet" "NORTH" "[I", .fieldLink RX1 95 "PastAndClear$Approach" "timeAbove" "J", .fieldLink RX1 99 "PastAndClear$Approach" "timeBelow" "J", .fieldLink RX1 102 "PastAndClear$Approach" "nearAbove" "J", .fieldLink RX1 105 "PastAndClear$Approach" "nearBelow" "J", .methodLink RX1 91 yX0_isRisk, .instanceMethod yX0_isRisk, .selects RX0 yX0_isRisk yX0_isRisk, .initialized RX0, .code yX0_isRisk cX0_isRisk 5 (some .boolean), .fieldLink RX0 19 "PastAndClear$Approach" "nearAbove" "J", .fieldLink RX0 13 "PastAndClear$Approach" "nearBelow" "J", .fieldLink RX0 16 "PastAndClear$Approach" "timeAbove" "J", .fieldLink RX0 7 "PastAndClear$Approach" "timeBelow" "J"] ++ wsX10 ++ wsX00)
def wsX1_worstOther_r1 : List Cond := [Cond.fieldLink RX1 11 "PastAndClear$Fleet" "cells" "[I", Cond.fieldLink RX1 18 "PastAndClear$Fleet" "approach" "LPastAndClear$Approach;", Cond.fieldLink RX1 22 "PastAndClear$Fleet" "worstYet" "LPastAndClear$Approach;", Cond.methodLink RX1 113 yX1_haveRisk, Cond.instanceMethod yX1_haveRisk, Cond.selects RX1 yX1_haveRisk yX1_haveRisk, Cond.initialized RX1, Cond.code yX1_haveRisk cX1_haveRisk 3 (some .boolean), Cond.methodLink RX1 87 yX1_measure, Cond.instanceMethod yX1_measure, Cond.selects RX1 yX1_measure yX1_measure, Cond.code yX1_measure cX1_measure 19 none, Cond.fieldLink RX1 36 "PastAndClear$Fleet" "EAST" "[I", Cond.fieldLink RX1 39 "PastAndClear$Fleet" "NORTH" "[I", Cond.fieldLink RX1 95 "PastAndClear$Approach" "timeAbove" "J", Cond.fieldLink RX1 99 "PastAndClear$Approach" "timeBelow" "J", Cond.fieldLink RX1 102 "PastAndClear$Approach" "nearAbove" "J", Cond.fieldLink RX1 105 "PastAndClear$Approach" "nearBelow" "J", Cond.methodLink RX1 91 yX0_isRisk, Cond.instanceMethod yX0_isRisk, Cond.selects RX0 yX0_isRisk yX0_isRisk, Cond.initialized RX0, Cond.code yX0_isRisk cX0_isRisk 5 (some .boolean), Cond.fieldLink RX0 19 "PastAndClear$Approach" "nearAbove" "J"]
def wsX1_worstOther_r2 : List Cond := [Cond.fieldLink RX0 13 "PastAndClear$Approach" "nearBelow" "J", Cond.fieldLink RX0 16 "PastAndClear$Approach" "timeAbove" "J", Cond.fieldLink RX0 7 "PastAndClear$Approach" "timeBelow" "J", Cond.methodLink RX1 119 yX0_isWorse, Cond.instanceMethod yX0_isWorse, Cond.selects RX0 yX0_isWorse yX0_isWorse, Cond.code yX0_isWorse cX0_isWorse 4 (some .boolean), Cond.methodLink RX1 123 yX0_take, Cond.instanceMethod yX0_take, Cond.selects RX0 yX0_take yX0_take, Cond.code yX0_take cX0_take 2 none]
def wsX1_worstOther : List Cond := .code yX1_worstOther cX1_worstOther 3 (some .int) :: ((wsX1_worstOther_r1 ++ wsX1_worstOther_r2) ++ wsX10 ++ wsX00)
def wsX1_isClear_r1 : List Cond := [Cond.fieldLink RX1 11 "PastAndClear$Fleet" "cells" "[I", Cond.methodLink RX1 127 yX1_wouldRisk, Cond.instanceMethod yX1_wouldRisk, Cond.selects RX1 yX1_wouldRisk yX1_wouldRisk, Cond.initialized RX1, Cond.code yX1_wouldRisk cX1_wouldRisk 5 (some .boolean), Cond.fieldLink RX1 18 "PastAndClear$Fleet" "approach" "LPastAndClear$Approach;", Cond.methodLink RX1 87 yX1_measure, Cond.instanceMethod yX1_measure, Cond.selects RX1 yX1_measure yX1_measure, Cond.code yX1_measure cX1_measure 19 none, Cond.fieldLink RX1 36 "PastAndClear$Fleet" "EAST" "[I", Cond.fieldLink RX1 39 "PastAndClear$Fleet" "NORTH" "[I", Cond.fieldLink RX1 95 "PastAndClear$Approach" "timeAbove" "J", Cond.fieldLink RX1 99 "PastAndClear$Approach" "timeBelow" "J", Cond.fieldLink RX1 102 "PastAndClear$Approach" "nearAbove" "J", Cond.fieldLink RX1 105 "PastAndClear$Approach" "nearBelow" "J", Cond.methodLink RX1 91 yX0_isRisk, Cond.instanceMethod yX0_isRisk, Cond.selects RX0 yX0_isRisk yX0_isRisk, Cond.initialized RX0, Cond.code yX0_isRisk cX0_isRisk 5 (some .boolean), Cond.fieldLink RX0 19 "PastAndClear$Approach" "nearAbove" "J", Cond.fieldLink RX0 13 "PastAndClear$Approach" "nearBelow" "J"]
def wsX1_isClear_r2 : List Cond := [Cond.fieldLink RX0 16 "PastAndClear$Approach" "timeAbove" "J", Cond.fieldLink RX0 7 "PastAndClear$Approach" "timeBelow" "J"]
def wsX1_isClear : List Cond := .code yX1_isClear cX1_isClear 5 (some .boolean) :: ((wsX1_isClear_r1 ++ wsX1_isClear_r2) ++ wsX10 ++ wsX00)
def wsX1_blockedBy_r1 : List Cond := [Cond.fieldLink RX1 11 "PastAndClear$Fleet" "cells" "[I", Cond.methodLink RX1 127 yX1_wouldRisk, Cond.instanceMethod yX1_wouldRisk, Cond.selects RX1 yX1_wouldRisk yX1_wouldRisk, Cond.initialized RX1, Cond.code yX1_wouldRisk cX1_wouldRisk 5 (some .boolean), Cond.fieldLink RX1 18 "PastAndClear$Fleet" "approach" "LPastAndClear$Approach;", Cond.methodLink RX1 87 yX1_measure, Cond.instanceMethod yX1_measure, Cond.selects RX1 yX1_measure yX1_measure, Cond.code yX1_measure cX1_measure 19 none, Cond.fieldLink RX1 36 "PastAndClear$Fleet" "EAST" "[I", Cond.fieldLink RX1 39 "PastAndClear$Fleet" "NORTH" "[I", Cond.fieldLink RX1 95 "PastAndClear$Approach" "timeAbove" "J", Cond.fieldLink RX1 99 "PastAndClear$Approach" "timeBelow" "J", Cond.fieldLink RX1 102 "PastAndClear$Approach" "nearAbove" "J", Cond.fieldLink RX1 105 "PastAndClear$Approach" "nearBelow" "J", Cond.methodLink RX1 91 yX0_isRisk, Cond.instanceMethod yX0_isRisk, Cond.selects RX0 yX0_isRisk yX0_isRisk, Cond.initialized RX0, Cond.code yX0_isRisk cX0_isRisk 5 (some .boolean), Cond.fieldLink RX0 19 "PastAndClear$Approach" "nearAbove" "J", Cond.fieldLink RX0 13 "PastAndClear$Approach" "nearBelow" "J"]
def wsX1_blockedBy_r2 : List Cond := [Cond.fieldLink RX0 16 "PastAndClear$Approach" "timeAbove" "J", Cond.fieldLink RX0 7 "PastAndClear$Approach" "timeBelow" "J"]
def wsX1_blockedBy : List Cond := .code yX1_blockedBy cX1_blockedBy 4 (some .int) :: ((wsX1_blockedBy_r1 ++ wsX1_blockedBy_r2) ++ wsX10 ++ wsX00)
def wsX1_mustGiveWay_r1 : List Cond := [Cond.fieldLink RX1 11 "PastAndClear$Fleet" "cells" "[I", Cond.methodLink RX1 71 yX1_givenWay, Cond.instanceMethod yX1_givenWay, Cond.selects RX1 yX1_givenWay yX1_givenWay, Cond.initialized RX1, Cond.code yX1_givenWay cX1_givenWay 3 (some .int), Cond.methodLink RX1 75 yX1_tableOf, Cond.instanceMethod yX1_tableOf, Cond.selects RX1 yX1_tableOf yX1_tableOf, Cond.code yX1_tableOf cX1_tableOf 5 (some .int), Cond.methodLink RX1 113 yX1_haveRisk, Cond.instanceMethod yX1_haveRisk, Cond.selects RX1 yX1_haveRisk yX1_haveRisk, Cond.code yX1_haveRisk cX1_haveRisk 3 (some .boolean), Cond.fieldLink RX1 18 "PastAndClear$Fleet" "approach" "LPastAndClear$Approach;", Cond.methodLink RX1 87 yX1_measure, Cond.instanceMethod yX1_measure, Cond.selects RX1 yX1_measure yX1_measure, Cond.code yX1_measure cX1_measure 19 none, Cond.fieldLink RX1 36 "PastAndClear$Fleet" "EAST" "[I", Cond.fieldLink RX1 39 "PastAndClear$Fleet" "NORTH" "[I", Cond.fieldLink RX1 95 "PastAndClear$Approach" "timeAbove" "J", Cond.fieldLink RX1 99 "PastAndClear$Approach" "timeBelow" "J", Cond.fieldLink RX1 102 "PastAndClear$Approach" "nearAbove" "J"]
def wsX1_mustGiveWay_r2 : List Cond := [Cond.fieldLink RX1 105 "PastAndClear$Approach" "nearBelow" "J", Cond.methodLink RX1 91 yX0_isRisk, Cond.instanceMethod yX0_isRisk, Cond.selects RX0 yX0_isRisk yX0_isRisk, Cond.initialized RX0, Cond.code yX0_isRisk cX0_isRisk 5 (some .boolean), Cond.fieldLink RX0 19 "PastAndClear$Approach" "nearAbove" "J", Cond.fieldLink RX0 13 "PastAndClear$Approach" "nearBelow" "J", Cond.fieldLink RX0 16 "PastAndClear$Approach" "timeAbove" "J", Cond.fieldLink RX0 7 "PastAndClear$Approach" "timeBelow" "J", Cond.methodLink RX1 116 yX1_sectorOf, Cond.instanceMethod yX1_sectorOf, Cond.selects RX1 yX1_sectorOf yX1_sectorOf, Cond.code yX1_sectorOf cX1_sectorOf 9 (some .int), Cond.methodLink RX1 108 Lib.Math.abs.name, Cond.static Lib.Math.abs.name, Cond.initialized "java/lang/Math", Cond.code Lib.Math.abs.name Lib.Math.abs.code 1 (some .int)]
def wsX1_mustGiveWay : List Cond := .code yX1_mustGiveWay cX1_mustGiveWay 3 (some .boolean) :: ((wsX1_mustGiveWay_r1 ++ wsX1_mustGiveWay_r2) ++ wsX10 ++ wsX00)
def wsX1_turnFor_r1 : List Cond := [Cond.fieldLink RX1 11 "PastAndClear$Fleet" "cells" "[I", Cond.methodLink RX1 137 yX1_isClear, Cond.instanceMethod yX1_isClear, Cond.selects RX1 yX1_isClear yX1_isClear, Cond.initialized RX1, Cond.code yX1_isClear cX1_isClear 5 (some .boolean), Cond.methodLink RX1 127 yX1_wouldRisk, Cond.instanceMethod yX1_wouldRisk, Cond.selects RX1 yX1_wouldRisk yX1_wouldRisk, Cond.code yX1_wouldRisk cX1_wouldRisk 5 (some .boolean), Cond.fieldLink RX1 18 "PastAndClear$Fleet" "approach" "LPastAndClear$Approach;", Cond.methodLink RX1 87 yX1_measure, Cond.instanceMethod yX1_measure, Cond.selects RX1 yX1_measure yX1_measure, Cond.code yX1_measure cX1_measure 19 none, Cond.fieldLink RX1 36 "PastAndClear$Fleet" "EAST" "[I", Cond.fieldLink RX1 39 "PastAndClear$Fleet" "NORTH" "[I", Cond.fieldLink RX1 95 "PastAndClear$Approach" "timeAbove" "J", Cond.fieldLink RX1 99 "PastAndClear$Approach" "timeBelow" "J", Cond.fieldLink RX1 102 "PastAndClear$Approach" "nearAbove" "J", Cond.fieldLink RX1 105 "PastAndClear$Approach" "nearBelow" "J", Cond.methodLink RX1 91 yX0_isRisk, Cond.instanceMethod yX0_isRisk, Cond.selects RX0 yX0_isRisk yX0_isRisk]
def wsX1_turnFor_r2 : List Cond := [Cond.initialized RX0, Cond.code yX0_isRisk cX0_isRisk 5 (some .boolean), Cond.fieldLink RX0 19 "PastAndClear$Approach" "nearAbove" "J", Cond.fieldLink RX0 13 "PastAndClear$Approach" "nearBelow" "J", Cond.fieldLink RX0 16 "PastAndClear$Approach" "timeAbove" "J", Cond.fieldLink RX0 7 "PastAndClear$Approach" "timeBelow" "J"]
def wsX1_turnFor : List Cond := .code yX1_turnFor cX1_turnFor 6 (some .int) :: ((wsX1_turnFor_r1 ++ wsX1_turnFor_r2) ++ wsX10 ++ wsX00)
def wsX1_adviceFor_r1 : List Cond := [Cond.fieldLink RX1 11 "PastAndClear$Fleet" "cells" "[I", Cond.methodLink RX1 131 yX1_mustGiveWay, Cond.instanceMethod yX1_mustGiveWay, Cond.selects RX1 yX1_mustGiveWay yX1_mustGiveWay, Cond.initialized RX1, Cond.code yX1_mustGiveWay cX1_mustGiveWay 3 (some .boolean), Cond.methodLink RX1 71 yX1_givenWay, Cond.instanceMethod yX1_givenWay, Cond.selects RX1 yX1_givenWay yX1_givenWay, Cond.code yX1_givenWay cX1_givenWay 3 (some .int), Cond.methodLink RX1 75 yX1_tableOf, Cond.instanceMethod yX1_tableOf, Cond.selects RX1 yX1_tableOf yX1_tableOf, Cond.code yX1_tableOf cX1_tableOf 5 (some .int), Cond.methodLink RX1 113 yX1_haveRisk, Cond.instanceMethod yX1_haveRisk, Cond.selects RX1 yX1_haveRisk yX1_haveRisk, Cond.code yX1_haveRisk cX1_haveRisk 3 (some .boolean), Cond.fieldLink RX1 18 "PastAndClear$Fleet" "approach" "LPastAndClear$Approach;", Cond.methodLink RX1 87 yX1_measure, Cond.instanceMethod yX1_measure, Cond.selects RX1 yX1_measure yX1_measure, Cond.code yX1_measure cX1_measure 19 none, Cond.fieldLink RX1 36 "PastAndClear$Fleet" "EAST" "[I"]
def wsX1_adviceFor_r2 : List Cond := [Cond.fieldLink RX1 39 "PastAndClear$Fleet" "NORTH" "[I", Cond.fieldLink RX1 95 "PastAndClear$Approach" "timeAbove" "J", Cond.fieldLink RX1 99 "PastAndClear$Approach" "timeBelow" "J", Cond.fieldLink RX1 102 "PastAndClear$Approach" "nearAbove" "J", Cond.fieldLink RX1 105 "PastAndClear$Approach" "nearBelow" "J", Cond.methodLink RX1 91 yX0_isRisk, Cond.instanceMethod yX0_isRisk, Cond.selects RX0 yX0_isRisk yX0_isRisk, Cond.initialized RX0, Cond.code yX0_isRisk cX0_isRisk 5 (some .boolean), Cond.fieldLink RX0 19 "PastAndClear$Approach" "nearAbove" "J", Cond.fieldLink RX0 13 "PastAndClear$Approach" "nearBelow" "J", Cond.fieldLink RX0 16 "PastAndClear$Approach" "timeAbove" "J", Cond.fieldLink RX0 7 "PastAndClear$Approach" "timeBelow" "J", Cond.methodLink RX1 116 yX1_sectorOf, Cond.instanceMethod yX1_sectorOf, Cond.selects RX1 yX1_sectorOf yX1_sectorOf, Cond.code yX1_sectorOf cX1_sectorOf 9 (some .int), Cond.methodLink RX1 108 Lib.Math.abs.name, Cond.static Lib.Math.abs.name, Cond.initialized "java/lang/Math", Cond.code Lib.Math.abs.name Lib.Math.abs.code 1 (some .int), Cond.methodLink RX1 134 yX1_turnFor, Cond.instanceMethod yX1_turnFor]
def wsX1_adviceFor_r3 : List Cond := [Cond.selects RX1 yX1_turnFor yX1_turnFor, Cond.code yX1_turnFor cX1_turnFor 6 (some .int), Cond.methodLink RX1 137 yX1_isClear, Cond.instanceMethod yX1_isClear, Cond.selects RX1 yX1_isClear yX1_isClear, Cond.code yX1_isClear cX1_isClear 5 (some .boolean), Cond.methodLink RX1 127 yX1_wouldRisk, Cond.instanceMethod yX1_wouldRisk, Cond.selects RX1 yX1_wouldRisk yX1_wouldRisk, Cond.code yX1_wouldRisk cX1_wouldRisk 5 (some .boolean)]
def wsX1_adviceFor : List Cond := .code yX1_adviceFor cX1_adviceFor 2 (some .int) :: ((wsX1_adviceFor_r1 ++ (wsX1_adviceFor_r2 ++ wsX1_adviceFor_r3)) ++ wsX10 ++ wsX00)
def wsX1_foldShip_r1 : List Cond := [Cond.constantLong RX1 141 (31), Cond.methodLink RX1 143 yX1_partOf, Cond.instanceMethod yX1_partOf, Cond.selects RX1 yX1_partOf yX1_partOf, Cond.initialized RX1, Cond.code yX1_partOf cX1_partOf 3 (some .int), Cond.fieldLink RX1 11 "PastAndClear$Fleet" "cells" "[I", Cond.methodLink RX1 29 yX1_eastward, Cond.instanceMethod yX1_eastward, Cond.selects RX1 yX1_eastward yX1_eastward, Cond.code yX1_eastward cX1_eastward 2 (some .int), Cond.fieldLink RX1 36 "PastAndClear$Fleet" "EAST" "[I", Cond.methodLink RX1 33 yX1_northward, Cond.instanceMethod yX1_northward, Cond.selects RX1 yX1_northward yX1_northward, Cond.code yX1_northward cX1_northward 2 (some .int), Cond.fieldLink RX1 39 "PastAndClear$Fleet" "NORTH" "[I", Cond.methodLink RX1 146 yX1_adviceFor, Cond.instanceMethod yX1_adviceFor, Cond.selects RX1 yX1_adviceFor yX1_adviceFor, Cond.code yX1_adviceFor cX1_adviceFor 2 (some .int), Cond.methodLink RX1 131 yX1_mustGiveWay, Cond.instanceMethod yX1_mustGiveWay, Cond.selects RX1 yX1_mustGiveWay yX1_mustGiveWay]
def wsX1_foldShip_r2 : List Cond := [Cond.code yX1_mustGiveWay cX1_mustGiveWay 3 (some .boolean), Cond.methodLink RX1 71 yX1_givenWay, Cond.instanceMethod yX1_givenWay, Cond.selects RX1 yX1_givenWay yX1_givenWay, Cond.code yX1_givenWay cX1_givenWay 3 (some .int), Cond.methodLink RX1 75 yX1_tableOf, Cond.instanceMethod yX1_tableOf, Cond.selects RX1 yX1_tableOf yX1_tableOf, Cond.code yX1_tableOf cX1_tableOf 5 (some .int), Cond.methodLink RX1 113 yX1_haveRisk, Cond.instanceMethod yX1_haveRisk, Cond.selects RX1 yX1_haveRisk yX1_haveRisk, Cond.code yX1_haveRisk cX1_haveRisk 3 (some .boolean), Cond.fieldLink RX1 18 "PastAndClear$Fleet" "approach" "LPastAndClear$Approach;", Cond.methodLink RX1 87 yX1_measure, Cond.instanceMethod yX1_measure, Cond.selects RX1 yX1_measure yX1_measure, Cond.code yX1_measure cX1_measure 19 none, Cond.fieldLink RX1 95 "PastAndClear$Approach" "timeAbove" "J", Cond.fieldLink RX1 99 "PastAndClear$Approach" "timeBelow" "J", Cond.fieldLink RX1 102 "PastAndClear$Approach" "nearAbove" "J", Cond.fieldLink RX1 105 "PastAndClear$Approach" "nearBelow" "J", Cond.methodLink RX1 91 yX0_isRisk, Cond.instanceMethod yX0_isRisk]
def wsX1_foldShip_r3 : List Cond := [Cond.selects RX0 yX0_isRisk yX0_isRisk, Cond.initialized RX0, Cond.code yX0_isRisk cX0_isRisk 5 (some .boolean), Cond.fieldLink RX0 19 "PastAndClear$Approach" "nearAbove" "J", Cond.fieldLink RX0 13 "PastAndClear$Approach" "nearBelow" "J", Cond.fieldLink RX0 16 "PastAndClear$Approach" "timeAbove" "J", Cond.fieldLink RX0 7 "PastAndClear$Approach" "timeBelow" "J", Cond.methodLink RX1 116 yX1_sectorOf, Cond.instanceMethod yX1_sectorOf, Cond.selects RX1 yX1_sectorOf yX1_sectorOf, Cond.code yX1_sectorOf cX1_sectorOf 9 (some .int), Cond.methodLink RX1 108 Lib.Math.abs.name, Cond.static Lib.Math.abs.name, Cond.initialized "java/lang/Math", Cond.code Lib.Math.abs.name Lib.Math.abs.code 1 (some .int), Cond.methodLink RX1 134 yX1_turnFor, Cond.instanceMethod yX1_turnFor, Cond.selects RX1 yX1_turnFor yX1_turnFor, Cond.code yX1_turnFor cX1_turnFor 6 (some .int), Cond.methodLink RX1 137 yX1_isClear, Cond.instanceMethod yX1_isClear, Cond.selects RX1 yX1_isClear yX1_isClear, Cond.code yX1_isClear cX1_isClear 5 (some .boolean), Cond.methodLink RX1 127 yX1_wouldRisk]
def wsX1_foldShip_r4 : List Cond := [Cond.instanceMethod yX1_wouldRisk, Cond.selects RX1 yX1_wouldRisk yX1_wouldRisk, Cond.code yX1_wouldRisk cX1_wouldRisk 5 (some .boolean)]
def wsX1_foldShip : List Cond := .code yX1_foldShip cX1_foldShip 5 (some .long) :: ((wsX1_foldShip_r1 ++ (wsX1_foldShip_r2 ++ (wsX1_foldShip_r3 ++ wsX1_foldShip_r4))) ++ wsX10 ++ wsX00)
def wsX1_foldOther_r1 : List Cond := [Cond.constantLong RX1 141 (31), Cond.methodLink RX1 149 yX1_dutyTo, Cond.instanceMethod yX1_dutyTo, Cond.selects RX1 yX1_dutyTo yX1_dutyTo, Cond.initialized RX1, Cond.code yX1_dutyTo cX1_dutyTo 2 (some .int), Cond.fieldLink RX1 11 "PastAndClear$Fleet" "cells" "[I", Cond.methodLink RX1 79 yX1_approachOf, Cond.instanceMethod yX1_approachOf, Cond.selects RX1 yX1_approachOf yX1_approachOf, Cond.code yX1_approachOf cX1_approachOf 3 (some (.object "PastAndClear$Approach")), Cond.fieldLink RX1 18 "PastAndClear$Fleet" "approach" "LPastAndClear$Approach;", Cond.methodLink RX1 87 yX1_measure, Cond.instanceMethod yX1_measure, Cond.selects RX1 yX1_measure yX1_measure, Cond.code yX1_measure cX1_measure 19 none, Cond.fieldLink RX1 36 "PastAndClear$Fleet" "EAST" "[I", Cond.fieldLink RX1 39 "PastAndClear$Fleet" "NORTH" "[I", Cond.fieldLink RX1 95 "PastAndClear$Approach" "timeAbove" "J", Cond.fieldLink RX1 99 "PastAndClear$Approach" "timeBelow" "J", Cond.fieldLink RX1 102 "PastAndClear$Approach" "nearAbove" "J", Cond.fieldLink RX1 105 "PastAndClear$Approach" "nearBelow" "J", Cond.methodLink RX1 152 yX0_part, Cond.instanceMethod yX0_part]
def wsX1_foldOther_r2 : List Cond := [Cond.selects RX0 yX0_part yX0_part, Cond.initialized RX0, Cond.code yX0_part cX0_part 2 (some .long), Cond.fieldLink RX0 16 "PastAndClear$Approach" "timeAbove" "J", Cond.fieldLink RX0 7 "PastAndClear$Approach" "timeBelow" "J", Cond.fieldLink RX0 19 "PastAndClear$Approach" "nearAbove" "J", Cond.fieldLink RX0 13 "PastAndClear$Approach" "nearBelow" "J", Cond.methodLink RX0 22 yX0_lowest, Cond.static yX0_lowest, Cond.code yX0_lowest cX0_lowest 7 (some .long), Cond.methodLink RX0 26 yX0_sharedDivisor, Cond.static yX0_sharedDivisor, Cond.code yX0_sharedDivisor cX0_sharedDivisor 7 (some .long), Cond.methodLink RX1 116 yX1_sectorOf, Cond.instanceMethod yX1_sectorOf, Cond.selects RX1 yX1_sectorOf yX1_sectorOf, Cond.code yX1_sectorOf cX1_sectorOf 9 (some .int), Cond.methodLink RX1 108 Lib.Math.abs.name, Cond.static Lib.Math.abs.name, Cond.initialized "java/lang/Math", Cond.code Lib.Math.abs.name Lib.Math.abs.code 1 (some .int), Cond.methodLink RX1 156 yX1_blockedBy, Cond.instanceMethod yX1_blockedBy, Cond.selects RX1 yX1_blockedBy yX1_blockedBy]
def wsX1_foldOther_r3 : List Cond := [Cond.code yX1_blockedBy cX1_blockedBy 4 (some .int), Cond.methodLink RX1 127 yX1_wouldRisk, Cond.instanceMethod yX1_wouldRisk, Cond.selects RX1 yX1_wouldRisk yX1_wouldRisk, Cond.code yX1_wouldRisk cX1_wouldRisk 5 (some .boolean), Cond.methodLink RX1 91 yX0_isRisk, Cond.instanceMethod yX0_isRisk, Cond.selects RX0 yX0_isRisk yX0_isRisk, Cond.code yX0_isRisk cX0_isRisk 5 (some .boolean)]
def wsX1_foldOther : List Cond := .code yX1_foldOther cX1_foldOther 6 (some .long) :: ((wsX1_foldOther_r1 ++ (wsX1_foldOther_r2 ++ wsX1_foldOther_r3)) ++ wsX10 ++ wsX00)
def wsX2_init : List Cond := .code yX2_init cX2_init 1 none :: ([.methodLink RX2 1 objectInit, .instanceMethod objectInit, .code objectInit ⟨#[0xb1]⟩ 1 none, .arrayClass .int, .fieldLink RX2 11 "PastAndClear$History" "rows" "[I"] ++ wsX20)
def wsX2_mark : List Cond := .code yX2_mark cX2_mark 2 none :: ([.fieldLink RX2 11 "PastAndClear$History" "rows" "[I", .fieldLink RX2 15 "PastAndClear$History" "kept" "I", .methodLink RX2 19 arraycopyName, .native arraycopyName, .static arraycopyName, .initialized "java/lang/System"] ++ wsX20)
def wsX2_restore : List Cond := .code yX2_restore cX2_restore 2 none :: ([.fieldLink RX2 11 "PastAndClear$History" "rows" "[I", .fieldLink RX2 15 "PastAndClear$History" "kept" "I", .methodLink RX2 19 arraycopyName, .native arraycopyName, .static arraycopyName, .initialized "java/lang/System"] ++ wsX20)
def wsX2_keep : List Cond := .code yX2_keep cX2_keep 1 none :: ([.fieldLink RX2 15 "PastAndClear$History" "kept" "I", .fieldLink RX2 11 "PastAndClear$History" "rows" "[I", .methodLink RX2 19 arraycopyName, .native arraycopyName, .static arraycopyName, .initialized "java/lang/System"] ++ wsX20)
def wsX2_takeBack : List Cond := .code yX2_takeBack cX2_takeBack 2 none :: ([.fieldLink RX2 15 "PastAndClear$History" "kept" "I", .methodLink RX2 25 yX2_restore, .instanceMethod yX2_restore, .selects RX2 yX2_restore yX2_restore, .initialized RX2, .code yX2_restore cX2_restore 2 none, .fieldLink RX2 11 "PastAndClear$History" "rows" "[I", .methodLink RX2 19 arraycopyName, .native arraycopyName, .static arraycopyName, .initialized "java/lang/System"] ++ wsX20)
def wsX3_init : List Cond := .code yX3_init cX3_init 1 none :: ([.methodLink RX3 5 objectInit, .instanceMethod objectInit, .code objectInit ⟨#[0xb1]⟩ 1 none, .arrayClass .byte, .fieldLink RX3 11 "PastAndClear$Script" "bytes" "[B", .arrayClass .int, .fieldLink RX3 15 "PastAndClear$Script" "numbers" "[I"] ++ wsX30)
def wsX3_append : List Cond := .code yX3_append cX3_append 2 (some .int) :: ([.fieldLink RX3 19 "PastAndClear$Script" "length" "I", .fieldLink RX3 11 "PastAndClear$Script" "bytes" "[B"] ++ wsX30)
def wsX3_empty : List Cond := .code yX3_empty cX3_empty 2 (some .int) :: ([.fieldLink RX3 19 "PastAndClear$Script" "length" "I"] ++ wsX30)
def wsX3_next : List Cond := .code yX3_next cX3_next 1 (some .int) :: ([.fieldLink RX3 33 "PastAndClear$Script" "at" "I", .fieldLink RX3 19 "PastAndClear$Script" "length" "I", .fieldLink RX3 11 "PastAndClear$Script" "bytes" "[B"] ++ wsX30)
def wsX3_skipBlanks : List Cond := .code yX3_skipBlanks cX3_skipBlanks 1 none :: ([.fieldLink RX3 33 "PastAndClear$Script" "at" "I", .fieldLink RX3 19 "PastAndClear$Script" "length" "I", .methodLink RX3 39 yX3_next, .instanceMethod yX3_next, .selects RX3 yX3_next yX3_next, .initialized RX3, .code yX3_next cX3_next 1 (some .int), .fieldLink RX3 11 "PastAndClear$Script" "bytes" "[B"] ++ wsX30)
def wsX3_rewind : List Cond := .code yX3_rewind cX3_rewind 1 none :: ([.fieldLink RX3 33 "PastAndClear$Script" "at" "I", .methodLink RX3 36 yX3_skipBlanks, .instanceMethod yX3_skipBlanks, .selects RX3 yX3_skipBlanks yX3_skipBlanks, .initialized RX3, .code yX3_skipBlanks cX3_skipBlanks 1 none, .fieldLink RX3 19 "PastAndClear$Script" "length" "I", .methodLink RX3 39 yX3_next, .instanceMethod yX3_next, .selects RX3 yX3_next yX3_next, .code yX3_next cX3_next 1 (some .int), .fieldLink RX3 11 "PastAndClear$Script" "bytes" "[B"] ++ wsX30)
def wsX3_hasMore : List Cond := .code yX3_hasMore cX3_hasMore 1 (some .boolean) :: ([.fieldLink RX3 33 "PastAndClear$Script" "at" "I", .fieldLink RX3 19 "PastAndClear$Script" "length" "I"] ++ wsX30)
def wsX3_numbersOf : List Cond := .code yX3_numbersOf cX3_numbersOf 1 (some .int) :: ([])
def wsX3_isFigure : List Cond := .code yX3_isFigure cX3_isFigure 1 (some .boolean) :: ([])
def wsX3_readNumber : List Cond := .code yX3_readNumber cX3_readNumber 6 (some .boolean) :: ([.fieldLink RX3 33 "PastAndClear$Script" "at" "I", .fieldLink RX3 15 "PastAndClear$Script" "numbers" "[I", .methodLink RX3 39 yX3_next, .instanceMethod yX3_next, .selects RX3 yX3_next yX3_next, .initialized RX3, .code yX3_next cX3_next 1 (some .int), .fieldLink RX3 19 "PastAndClear$Script" "length" "I", .fieldLink RX3 11 "PastAndClear$Script" "bytes" "[B", .methodLink RX3 54 yX3_isFigure, .static yX3_isFigure, .code yX3_isFigure cX3_isFigure 1 (some .boolean)] ++ wsX30)
def wsX3_readOrder : List Cond := .code yX3_readOrder cX3_readOrder 4 (some .boolean) :: ([.fieldLink RX3 43 "PastAndClear$Script" "kind" "I", .fieldLink RX3 33 "PastAndClear$Script" "at" "I", .methodLink RX3 39 yX3_next, .instanceMethod yX3_next, .selects RX3 yX3_next yX3_next, .initialized RX3, .code yX3_next cX3_next 1 (some .int), .fieldLink RX3 19 "PastAndClear$Script" "length" "I", .fieldLink RX3 11 "PastAndClear$Script" "bytes" "[B", .methodLink RX3 46 yX3_numbersOf, .static yX3_numbersOf, .code yX3_numbersOf cX3_numbersOf 1 (some .int), .methodLink RX3 36 yX3_skipBlanks, .instanceMethod yX3_skipBlanks, .selects RX3 yX3_skipBlanks yX3_skipBlanks, .code yX3_skipBlanks cX3_skipBlanks 1 none, .methodLink RX3 50 yX3_readNumber, .instanceMethod yX3_readNumber, .selects RX3 yX3_readNumber yX3_readNumber, .code yX3_readNumber cX3_readNumber 6 (some .boolean), .fieldLink RX3 15 "PastAndClear$Script" "numbers" "[I", .methodLink RX3 54 yX3_isFigure, .static yX3_isFigure, .code yX3_isFigure cX3_isFigure 1 (some .boolean)] ++ wsX30)
def wsX3_faultPlace_r1 : List Cond := [Cond.fieldLink RX3 19 "PastAndClear$Script" "length" "I", Cond.fieldLink RX3 33 "PastAndClear$Script" "at" "I", Cond.methodLink RX3 23 yX3_rewind, Cond.instanceMethod yX3_rewind, Cond.selects RX3 yX3_rewind yX3_rewind, Cond.initialized RX3, Cond.code yX3_rewind cX3_rewind 1 none, Cond.methodLink RX3 36 yX3_skipBlanks, Cond.instanceMethod yX3_skipBlanks, Cond.selects RX3 yX3_skipBlanks yX3_skipBlanks, Cond.code yX3_skipBlanks cX3_skipBlanks 1 none, Cond.methodLink RX3 39 yX3_next, Cond.instanceMethod yX3_next, Cond.selects RX3 yX3_next yX3_next, Cond.code yX3_next cX3_next 1 (some .int), Cond.fieldLink RX3 11 "PastAndClear$Script" "bytes" "[B", Cond.methodLink RX3 26 yX3_hasMore, Cond.instanceMethod yX3_hasMore, Cond.selects RX3 yX3_hasMore yX3_hasMore, Cond.code yX3_hasMore cX3_hasMore 1 (some .boolean), Cond.methodLink RX3 30 yX3_readOrder, Cond.instanceMethod yX3_readOrder, Cond.selects RX3 yX3_readOrder yX3_readOrder, Cond.code yX3_readOrder cX3_readOrder 4 (some .boolean)]
def wsX3_faultPlace_r2 : List Cond := [Cond.fieldLink RX3 43 "PastAndClear$Script" "kind" "I", Cond.methodLink RX3 46 yX3_numbersOf, Cond.static yX3_numbersOf, Cond.code yX3_numbersOf cX3_numbersOf 1 (some .int), Cond.methodLink RX3 50 yX3_readNumber, Cond.instanceMethod yX3_readNumber, Cond.selects RX3 yX3_readNumber yX3_readNumber, Cond.code yX3_readNumber cX3_readNumber 6 (some .boolean), Cond.fieldLink RX3 15 "PastAndClear$Script" "numbers" "[I", Cond.methodLink RX3 54 yX3_isFigure, Cond.static yX3_isFigure, Cond.code yX3_isFigure cX3_isFigure 1 (some .boolean)]
def wsX3_faultPlace : List Cond := .code yX3_faultPlace cX3_faultPlace 2 (some .int) :: ((wsX3_faultPlace_r1 ++ wsX3_faultPlace_r2) ++ wsX30)
def wsX4_init_r1 : List Cond := [Cond.methodLink RX4 1 objectInit, Cond.instanceMethod objectInit, Cond.code objectInit ⟨#[0xb1]⟩ 1 none, Cond.classLink RX4 7 RX1, Cond.instantiable RX1 3, Cond.initialized RX1, Cond.fieldLink RX4 10 "PastAndClear" "fleet" "LPastAndClear$Fleet;", Cond.classLink RX4 16 RX2, Cond.instantiable RX2 2, Cond.initialized RX2, Cond.fieldLink RX4 19 "PastAndClear" "history" "LPastAndClear$History;", Cond.classLink RX4 23 RX3, Cond.instantiable RX3 5, Cond.initialized RX3, Cond.fieldLink RX4 26 "PastAndClear" "script" "LPastAndClear$Script;", Cond.methodLink RX4 9 yX1_init, Cond.instanceMethod yX1_init, Cond.code yX1_init cX1_init 1 none, Cond.methodLink RX1 3 objectInit, Cond.arrayClass .int, Cond.fieldLink RX1 11 "PastAndClear$Fleet" "cells" "[I", Cond.classLink RX1 15 RX0, Cond.instantiable RX0 4, Cond.initialized RX0]
def wsX4_init_r2 : List Cond := [Cond.fieldLink RX1 18 "PastAndClear$Fleet" "approach" "LPastAndClear$Approach;", Cond.fieldLink RX1 22 "PastAndClear$Fleet" "worstYet" "LPastAndClear$Approach;", Cond.methodLink RX1 17 yX0_init, Cond.instanceMethod yX0_init, Cond.code yX0_init cX0_init 1 none, Cond.methodLink RX0 1 objectInit, Cond.fieldLink RX0 7 "PastAndClear$Approach" "timeBelow" "J", Cond.fieldLink RX0 13 "PastAndClear$Approach" "nearBelow" "J", Cond.methodLink RX4 18 yX2_init, Cond.instanceMethod yX2_init, Cond.code yX2_init cX2_init 1 none, Cond.methodLink RX2 1 objectInit, Cond.fieldLink RX2 11 "PastAndClear$History" "rows" "[I", Cond.methodLink RX4 25 yX3_init, Cond.instanceMethod yX3_init, Cond.code yX3_init cX3_init 1 none, Cond.methodLink RX3 5 objectInit, Cond.arrayClass .byte, Cond.fieldLink RX3 11 "PastAndClear$Script" "bytes" "[B", Cond.fieldLink RX3 15 "PastAndClear$Script" "numbers" "[I"]
def wsX4_init : List Cond := .code yX4_init cX4_init 1 none :: ((wsX4_init_r1 ++ wsX4_init_r2) ++ wsX10 ++ wsX40 ++ wsX20 ++ wsX30 ++ wsX00)
def wsX4_isRefusal : List Cond := .code yX4_isRefusal cX4_isRefusal 1 (some .boolean) :: ([])
def wsX4_answered : List Cond := .code yX4_answered cX4_answered 2 (some .int) :: ([.fieldLink RX4 192 "PastAndClear" "bads" "I", .fieldLink RX4 195 "PastAndClear" "noes" "I", .fieldLink RX4 198 "PastAndClear" "fulls" "I"] ++ wsX40)
def wsX4_changed : List Cond := .code yX4_changed cX4_changed 2 (some .int) :: ([.fieldLink RX4 19 "PastAndClear" "history" "LPastAndClear$History;", .methodLink RX4 153 yX4_isRefusal, .static yX4_isRefusal, .initialized RX4, .code yX4_isRefusal cX4_isRefusal 1 (some .boolean), .methodLink RX4 159 yX2_keep, .instanceMethod yX2_keep, .selects RX2 yX2_keep yX2_keep, .initialized RX2, .code yX2_keep cX2_keep 1 none, .fieldLink RX2 15 "PastAndClear$History" "kept" "I", .fieldLink RX2 11 "PastAndClear$History" "rows" "[I", .methodLink RX2 19 arraycopyName, .native arraycopyName, .static arraycopyName, .initialized "java/lang/System", .methodLink RX4 80 yX4_answered, .instanceMethod yX4_answered, .selects RX4 yX4_answered yX4_answered, .code yX4_answered cX4_answered 2 (some .int), .fieldLink RX4 192 "PastAndClear" "bads" "I", .fieldLink RX4 195 "PastAndClear" "noes" "I", .fieldLink RX4 198 "PastAndClear" "fulls" "I"] ++ wsX40 ++ wsX20)
def wsX4_adds_r1 : List Cond := [Cond.fieldLink RX4 19 "PastAndClear" "history" "LPastAndClear$History;", Cond.fieldLink RX4 10 "PastAndClear" "fleet" "LPastAndClear$Fleet;", Cond.fieldLink RX4 30 "PastAndClear$Fleet" "cells" "[I", Cond.methodLink RX4 34 yX2_mark, Cond.instanceMethod yX2_mark, Cond.selects RX2 yX2_mark yX2_mark, Cond.initialized RX2, Cond.code yX2_mark cX2_mark 2 none, Cond.fieldLink RX2 11 "PastAndClear$History" "rows" "[I", Cond.fieldLink RX2 15 "PastAndClear$History" "kept" "I", Cond.methodLink RX2 19 arraycopyName, Cond.native arraycopyName, Cond.static arraycopyName, Cond.initialized "java/lang/System", Cond.methodLink RX4 38 yX1_join, Cond.instanceMethod yX1_join, Cond.selects RX1 yX1_join yX1_join, Cond.initialized RX1, Cond.code yX1_join cX1_join 5 (some .int), Cond.fieldLink RX1 11 "PastAndClear$Fleet" "cells" "[I", Cond.methodLink RX1 42 yX1_isPlace, Cond.static yX1_isPlace, Cond.code yX1_isPlace cX1_isPlace 1 (some .boolean), Cond.static yX4_isCourse]
def wsX4_adds_r2 : List Cond := [Cond.initialized RX4, Cond.code yX4_isCourse cX4_isCourse 2 (some .boolean), Cond.methodLink RX1 49 yX1_put, Cond.instanceMethod yX1_put, Cond.selects RX1 yX1_put yX1_put, Cond.code yX1_put cX1_put 7 none, Cond.methodLink RX4 42 yX4_changed, Cond.instanceMethod yX4_changed, Cond.selects RX4 yX4_changed yX4_changed, Cond.code yX4_changed cX4_changed 2 (some .int), Cond.methodLink RX4 153 yX4_isRefusal, Cond.static yX4_isRefusal, Cond.code yX4_isRefusal cX4_isRefusal 1 (some .boolean), Cond.methodLink RX4 159 yX2_keep, Cond.instanceMethod yX2_keep, Cond.selects RX2 yX2_keep yX2_keep, Cond.code yX2_keep cX2_keep 1 none, Cond.methodLink RX4 80 yX4_answered, Cond.instanceMethod yX4_answered, Cond.selects RX4 yX4_answered yX4_answered, Cond.code yX4_answered cX4_answered 2 (some .int), Cond.fieldLink RX4 192 "PastAndClear" "bads" "I", Cond.fieldLink RX4 195 "PastAndClear" "noes" "I", Cond.fieldLink RX4 198 "PastAndClear" "fulls" "I"]
def wsX4_adds : List Cond := .code yX4_adds cX4_adds 5 (some .int) :: ((wsX4_adds_r1 ++ wsX4_adds_r2) ++ wsX40 ++ wsX10 ++ wsX20)
def wsX4_own_r1 : List Cond := [Cond.fieldLink RX4 19 "PastAndClear" "history" "LPastAndClear$History;", Cond.fieldLink RX4 10 "PastAndClear" "fleet" "LPastAndClear$Fleet;", Cond.fieldLink RX4 30 "PastAndClear$Fleet" "cells" "[I", Cond.methodLink RX4 34 yX2_mark, Cond.instanceMethod yX2_mark, Cond.selects RX2 yX2_mark yX2_mark, Cond.initialized RX2, Cond.code yX2_mark cX2_mark 2 none, Cond.fieldLink RX2 11 "PastAndClear$History" "rows" "[I", Cond.fieldLink RX2 15 "PastAndClear$History" "kept" "I", Cond.methodLink RX2 19 arraycopyName, Cond.native arraycopyName, Cond.static arraycopyName, Cond.initialized "java/lang/System", Cond.methodLink RX4 46 yX1_placeOwn, Cond.instanceMethod yX1_placeOwn, Cond.selects RX1 yX1_placeOwn yX1_placeOwn, Cond.initialized RX1, Cond.code yX1_placeOwn cX1_placeOwn 6 (some .int), Cond.fieldLink RX1 11 "PastAndClear$Fleet" "cells" "[I", Cond.methodLink RX1 42 yX1_isPlace, Cond.static yX1_isPlace, Cond.code yX1_isPlace cX1_isPlace 1 (some .boolean), Cond.static yX4_isCourse]
def wsX4_own_r2 : List Cond := [Cond.initialized RX4, Cond.code yX4_isCourse cX4_isCourse 2 (some .boolean), Cond.methodLink RX1 49 yX1_put, Cond.instanceMethod yX1_put, Cond.selects RX1 yX1_put yX1_put, Cond.code yX1_put cX1_put 7 none, Cond.methodLink RX4 42 yX4_changed, Cond.instanceMethod yX4_changed, Cond.selects RX4 yX4_changed yX4_changed, Cond.code yX4_changed cX4_changed 2 (some .int), Cond.methodLink RX4 153 yX4_isRefusal, Cond.static yX4_isRefusal, Cond.code yX4_isRefusal cX4_isRefusal 1 (some .boolean), Cond.methodLink RX4 159 yX2_keep, Cond.instanceMethod yX2_keep, Cond.selects RX2 yX2_keep yX2_keep, Cond.code yX2_keep cX2_keep 1 none, Cond.methodLink RX4 80 yX4_answered, Cond.instanceMethod yX4_answered, Cond.selects RX4 yX4_answered yX4_answered, Cond.code yX4_answered cX4_answered 2 (some .int), Cond.fieldLink RX4 192 "PastAndClear" "bads" "I", Cond.fieldLink RX4 195 "PastAndClear" "noes" "I", Cond.fieldLink RX4 198 "PastAndClear" "fulls" "I"]
def wsX4_own : List Cond := .code yX4_own cX4_own 5 (some .int) :: ((wsX4_own_r1 ++ wsX4_own_r2) ++ wsX40 ++ wsX10 ++ wsX20)
def wsX4_drops_r1 : List Cond := [Cond.fieldLink RX4 19 "PastAndClear" "history" "LPastAndClear$History;", Cond.fieldLink RX4 10 "PastAndClear" "fleet" "LPastAndClear$Fleet;", Cond.fieldLink RX4 30 "PastAndClear$Fleet" "cells" "[I", Cond.methodLink RX4 34 yX2_mark, Cond.instanceMethod yX2_mark, Cond.selects RX2 yX2_mark yX2_mark, Cond.initialized RX2, Cond.code yX2_mark cX2_mark 2 none, Cond.fieldLink RX2 11 "PastAndClear$History" "rows" "[I", Cond.fieldLink RX2 15 "PastAndClear$History" "kept" "I", Cond.methodLink RX2 19 arraycopyName, Cond.native arraycopyName, Cond.static arraycopyName, Cond.initialized "java/lang/System", Cond.methodLink RX4 49 yX1_leave, Cond.instanceMethod yX1_leave, Cond.selects RX1 yX1_leave yX1_leave, Cond.initialized RX1, Cond.code yX1_leave cX1_leave 3 (some .int), Cond.fieldLink RX1 11 "PastAndClear$Fleet" "cells" "[I", Cond.methodLink RX1 56 arraycopyName, Cond.methodLink RX1 53 yX1_isOther, Cond.instanceMethod yX1_isOther, Cond.selects RX1 yX1_isOther yX1_isOther]
def wsX4_drops_r2 : List Cond := [Cond.code yX1_isOther cX1_isOther 2 (some .boolean), Cond.methodLink RX4 42 yX4_changed, Cond.instanceMethod yX4_changed, Cond.selects RX4 yX4_changed yX4_changed, Cond.initialized RX4, Cond.code yX4_changed cX4_changed 2 (some .int), Cond.methodLink RX4 153 yX4_isRefusal, Cond.static yX4_isRefusal, Cond.code yX4_isRefusal cX4_isRefusal 1 (some .boolean), Cond.methodLink RX4 159 yX2_keep, Cond.instanceMethod yX2_keep, Cond.selects RX2 yX2_keep yX2_keep, Cond.code yX2_keep cX2_keep 1 none, Cond.methodLink RX4 80 yX4_answered, Cond.instanceMethod yX4_answered, Cond.selects RX4 yX4_answered yX4_answered, Cond.code yX4_answered cX4_answered 2 (some .int), Cond.fieldLink RX4 192 "PastAndClear" "bads" "I", Cond.fieldLink RX4 195 "PastAndClear" "noes" "I", Cond.fieldLink RX4 198 "PastAndClear" "fulls" "I"]
def wsX4_drops : List Cond := .code yX4_drops cX4_drops 2 (some .int) :: ((wsX4_drops_r1 ++ wsX4_drops_r2) ++ wsX40 ++ wsX10 ++ wsX20)
def wsX4_veers_r1 : List Cond := [Cond.fieldLink RX4 19 "PastAndClear" "history" "LPastAndClear$History;", Cond.fieldLink RX4 10 "PastAndClear" "fleet" "LPastAndClear$Fleet;", Cond.fieldLink RX4 30 "PastAndClear$Fleet" "cells" "[I", Cond.methodLink RX4 34 yX2_mark, Cond.instanceMethod yX2_mark, Cond.selects RX2 yX2_mark yX2_mark, Cond.initialized RX2, Cond.code yX2_mark cX2_mark 2 none, Cond.fieldLink RX2 11 "PastAndClear$History" "rows" "[I", Cond.fieldLink RX2 15 "PastAndClear$History" "kept" "I", Cond.methodLink RX2 19 arraycopyName, Cond.native arraycopyName, Cond.static arraycopyName, Cond.initialized "java/lang/System", Cond.methodLink RX4 52 yX1_steer, Cond.instanceMethod yX1_steer, Cond.selects RX1 yX1_steer yX1_steer, Cond.initialized RX1, Cond.code yX1_steer cX1_steer 5 (some .int), Cond.fieldLink RX1 11 "PastAndClear$Fleet" "cells" "[I", Cond.methodLink RX1 25 yX1_isShip, Cond.instanceMethod yX1_isShip, Cond.selects RX1 yX1_isShip yX1_isShip, Cond.code yX1_isShip cX1_isShip 2 (some .boolean)]
def wsX4_veers_r2 : List Cond := [Cond.static yX4_isCourse, Cond.initialized RX4, Cond.code yX4_isCourse cX4_isCourse 2 (some .boolean), Cond.methodLink RX4 42 yX4_changed, Cond.instanceMethod yX4_changed, Cond.selects RX4 yX4_changed yX4_changed, Cond.code yX4_changed cX4_changed 2 (some .int), Cond.methodLink RX4 153 yX4_isRefusal, Cond.static yX4_isRefusal, Cond.code yX4_isRefusal cX4_isRefusal 1 (some .boolean), Cond.methodLink RX4 159 yX2_keep, Cond.instanceMethod yX2_keep, Cond.selects RX2 yX2_keep yX2_keep, Cond.code yX2_keep cX2_keep 1 none, Cond.methodLink RX4 80 yX4_answered, Cond.instanceMethod yX4_answered, Cond.selects RX4 yX4_answered yX4_answered, Cond.code yX4_answered cX4_answered 2 (some .int), Cond.fieldLink RX4 192 "PastAndClear" "bads" "I", Cond.fieldLink RX4 195 "PastAndClear" "noes" "I", Cond.fieldLink RX4 198 "PastAndClear" "fulls" "I"]
def wsX4_veers : List Cond := .code yX4_veers cX4_veers 4 (some .int) :: ((wsX4_veers_r1 ++ wsX4_veers_r2) ++ wsX40 ++ wsX10 ++ wsX20)
def wsX4_sets_r1 : List Cond := [Cond.fieldLink RX4 19 "PastAndClear" "history" "LPastAndClear$History;", Cond.fieldLink RX4 10 "PastAndClear" "fleet" "LPastAndClear$Fleet;", Cond.fieldLink RX4 30 "PastAndClear$Fleet" "cells" "[I", Cond.methodLink RX4 34 yX2_mark, Cond.instanceMethod yX2_mark, Cond.selects RX2 yX2_mark yX2_mark, Cond.initialized RX2, Cond.code yX2_mark cX2_mark 2 none, Cond.fieldLink RX2 11 "PastAndClear$History" "rows" "[I", Cond.fieldLink RX2 15 "PastAndClear$History" "kept" "I", Cond.methodLink RX2 19 arraycopyName, Cond.native arraycopyName, Cond.static arraycopyName, Cond.initialized "java/lang/System", Cond.methodLink RX4 56 yX1_setRule, Cond.instanceMethod yX1_setRule, Cond.selects RX1 yX1_setRule yX1_setRule, Cond.initialized RX1, Cond.code yX1_setRule cX1_setRule 4 (some .int), Cond.fieldLink RX1 11 "PastAndClear$Fleet" "cells" "[I", Cond.methodLink RX4 42 yX4_changed, Cond.instanceMethod yX4_changed, Cond.selects RX4 yX4_changed yX4_changed, Cond.initialized RX4]
def wsX4_sets_r2 : List Cond := [Cond.code yX4_changed cX4_changed 2 (some .int), Cond.methodLink RX4 153 yX4_isRefusal, Cond.static yX4_isRefusal, Cond.code yX4_isRefusal cX4_isRefusal 1 (some .boolean), Cond.methodLink RX4 159 yX2_keep, Cond.instanceMethod yX2_keep, Cond.selects RX2 yX2_keep yX2_keep, Cond.code yX2_keep cX2_keep 1 none, Cond.methodLink RX4 80 yX4_answered, Cond.instanceMethod yX4_answered, Cond.selects RX4 yX4_answered yX4_answered, Cond.code yX4_answered cX4_answered 2 (some .int), Cond.fieldLink RX4 192 "PastAndClear" "bads" "I", Cond.fieldLink RX4 195 "PastAndClear" "noes" "I", Cond.fieldLink RX4 198 "PastAndClear" "fulls" "I"]
def wsX4_sets : List Cond := .code yX4_sets cX4_sets 3 (some .int) :: ((wsX4_sets_r1 ++ wsX4_sets_r2) ++ wsX40 ++ wsX10 ++ wsX20)
def wsX4_steps_r1 : List Cond := [Cond.fieldLink RX4 19 "PastAndClear" "history" "LPastAndClear$History;", Cond.fieldLink RX4 10 "PastAndClear" "fleet" "LPastAndClear$Fleet;", Cond.fieldLink RX4 30 "PastAndClear$Fleet" "cells" "[I", Cond.methodLink RX4 34 yX2_mark, Cond.instanceMethod yX2_mark, Cond.selects RX2 yX2_mark yX2_mark, Cond.initialized RX2, Cond.code yX2_mark cX2_mark 2 none, Cond.fieldLink RX2 11 "PastAndClear$History" "rows" "[I", Cond.fieldLink RX2 15 "PastAndClear$History" "kept" "I", Cond.methodLink RX2 19 arraycopyName, Cond.native arraycopyName, Cond.static arraycopyName, Cond.initialized "java/lang/System", Cond.methodLink RX4 60 yX1_goOn, Cond.instanceMethod yX1_goOn, Cond.selects RX1 yX1_goOn yX1_goOn, Cond.initialized RX1, Cond.code yX1_goOn cX1_goOn 3 (some .int), Cond.fieldLink RX1 11 "PastAndClear$Fleet" "cells" "[I", Cond.methodLink RX1 62 yX1_staysInside, Cond.instanceMethod yX1_staysInside, Cond.selects RX1 yX1_staysInside yX1_staysInside, Cond.code yX1_staysInside cX1_staysInside 3 (some .boolean)]
def wsX4_steps_r2 : List Cond := [Cond.methodLink RX1 29 yX1_eastward, Cond.instanceMethod yX1_eastward, Cond.selects RX1 yX1_eastward yX1_eastward, Cond.code yX1_eastward cX1_eastward 2 (some .int), Cond.fieldLink RX1 36 "PastAndClear$Fleet" "EAST" "[I", Cond.methodLink RX1 42 yX1_isPlace, Cond.static yX1_isPlace, Cond.code yX1_isPlace cX1_isPlace 1 (some .boolean), Cond.methodLink RX1 33 yX1_northward, Cond.instanceMethod yX1_northward, Cond.selects RX1 yX1_northward yX1_northward, Cond.code yX1_northward cX1_northward 2 (some .int), Cond.fieldLink RX1 39 "PastAndClear$Fleet" "NORTH" "[I", Cond.methodLink RX1 65 yX1_moveAll, Cond.instanceMethod yX1_moveAll, Cond.selects RX1 yX1_moveAll yX1_moveAll, Cond.code yX1_moveAll cX1_moveAll 2 none, Cond.methodLink RX1 68 yX1_look, Cond.instanceMethod yX1_look, Cond.selects RX1 yX1_look yX1_look, Cond.code yX1_look cX1_look 2 none, Cond.methodLink RX1 75 yX1_tableOf, Cond.instanceMethod yX1_tableOf, Cond.selects RX1 yX1_tableOf yX1_tableOf]
def wsX4_steps_r3 : List Cond := [Cond.code yX1_tableOf cX1_tableOf 5 (some .int), Cond.methodLink RX1 113 yX1_haveRisk, Cond.instanceMethod yX1_haveRisk, Cond.selects RX1 yX1_haveRisk yX1_haveRisk, Cond.code yX1_haveRisk cX1_haveRisk 3 (some .boolean), Cond.fieldLink RX1 18 "PastAndClear$Fleet" "approach" "LPastAndClear$Approach;", Cond.methodLink RX1 87 yX1_measure, Cond.instanceMethod yX1_measure, Cond.selects RX1 yX1_measure yX1_measure, Cond.code yX1_measure cX1_measure 19 none, Cond.fieldLink RX1 95 "PastAndClear$Approach" "timeAbove" "J", Cond.fieldLink RX1 99 "PastAndClear$Approach" "timeBelow" "J", Cond.fieldLink RX1 102 "PastAndClear$Approach" "nearAbove" "J", Cond.fieldLink RX1 105 "PastAndClear$Approach" "nearBelow" "J", Cond.methodLink RX1 91 yX0_isRisk, Cond.instanceMethod yX0_isRisk, Cond.selects RX0 yX0_isRisk yX0_isRisk, Cond.initialized RX0, Cond.code yX0_isRisk cX0_isRisk 5 (some .boolean), Cond.fieldLink RX0 19 "PastAndClear$Approach" "nearAbove" "J", Cond.fieldLink RX0 13 "PastAndClear$Approach" "nearBelow" "J", Cond.fieldLink RX0 16 "PastAndClear$Approach" "timeAbove" "J", Cond.fieldLink RX0 7 "PastAndClear$Approach" "timeBelow" "J", Cond.methodLink RX1 116 yX1_sectorOf]
def wsX4_steps_r4 : List Cond := [Cond.instanceMethod yX1_sectorOf, Cond.selects RX1 yX1_sectorOf yX1_sectorOf, Cond.code yX1_sectorOf cX1_sectorOf 9 (some .int), Cond.methodLink RX1 108 Lib.Math.abs.name, Cond.static Lib.Math.abs.name, Cond.initialized "java/lang/Math", Cond.code Lib.Math.abs.name Lib.Math.abs.code 1 (some .int), Cond.methodLink RX1 79 yX1_approachOf, Cond.instanceMethod yX1_approachOf, Cond.selects RX1 yX1_approachOf yX1_approachOf, Cond.code yX1_approachOf cX1_approachOf 3 (some (.object "PastAndClear$Approach")), Cond.methodLink RX1 83 yX0_isPastAndClear, Cond.instanceMethod yX0_isPastAndClear, Cond.selects RX0 yX0_isPastAndClear yX0_isPastAndClear, Cond.code yX0_isPastAndClear cX0_isPastAndClear 3 (some .boolean), Cond.methodLink RX1 71 yX1_givenWay, Cond.instanceMethod yX1_givenWay, Cond.selects RX1 yX1_givenWay yX1_givenWay, Cond.code yX1_givenWay cX1_givenWay 3 (some .int), Cond.methodLink RX4 42 yX4_changed, Cond.instanceMethod yX4_changed, Cond.selects RX4 yX4_changed yX4_changed, Cond.initialized RX4, Cond.code yX4_changed cX4_changed 2 (some .int)]
def wsX4_steps_r5 : List Cond := [Cond.methodLink RX4 153 yX4_isRefusal, Cond.static yX4_isRefusal, Cond.code yX4_isRefusal cX4_isRefusal 1 (some .boolean), Cond.methodLink RX4 159 yX2_keep, Cond.instanceMethod yX2_keep, Cond.selects RX2 yX2_keep yX2_keep, Cond.code yX2_keep cX2_keep 1 none, Cond.methodLink RX4 80 yX4_answered, Cond.instanceMethod yX4_answered, Cond.selects RX4 yX4_answered yX4_answered, Cond.code yX4_answered cX4_answered 2 (some .int), Cond.fieldLink RX4 192 "PastAndClear" "bads" "I", Cond.fieldLink RX4 195 "PastAndClear" "noes" "I", Cond.fieldLink RX4 198 "PastAndClear" "fulls" "I"]
def wsX4_steps : List Cond := .code yX4_steps cX4_steps 2 (some .int) :: ((wsX4_steps_r1 ++ (wsX4_steps_r2 ++ (wsX4_steps_r3 ++ (wsX4_steps_r4 ++ wsX4_steps_r5)))) ++ wsX40 ++ wsX10 ++ wsX20 ++ wsX00)
def wsX4_looks_r1 : List Cond := [Cond.fieldLink RX4 19 "PastAndClear" "history" "LPastAndClear$History;", Cond.fieldLink RX4 10 "PastAndClear" "fleet" "LPastAndClear$Fleet;", Cond.fieldLink RX4 30 "PastAndClear$Fleet" "cells" "[I", Cond.methodLink RX4 34 yX2_mark, Cond.instanceMethod yX2_mark, Cond.selects RX2 yX2_mark yX2_mark, Cond.initialized RX2, Cond.code yX2_mark cX2_mark 2 none, Cond.fieldLink RX2 11 "PastAndClear$History" "rows" "[I", Cond.fieldLink RX2 15 "PastAndClear$History" "kept" "I", Cond.methodLink RX2 19 arraycopyName, Cond.native arraycopyName, Cond.static arraycopyName, Cond.initialized "java/lang/System", Cond.methodLink RX4 63 yX1_look, Cond.instanceMethod yX1_look, Cond.selects RX1 yX1_look yX1_look, Cond.initialized RX1, Cond.code yX1_look cX1_look 2 none, Cond.fieldLink RX1 11 "PastAndClear$Fleet" "cells" "[I", Cond.methodLink RX1 75 yX1_tableOf, Cond.instanceMethod yX1_tableOf, Cond.selects RX1 yX1_tableOf yX1_tableOf, Cond.code yX1_tableOf cX1_tableOf 5 (some .int)]
def wsX4_looks_r2 : List Cond := [Cond.methodLink RX1 113 yX1_haveRisk, Cond.instanceMethod yX1_haveRisk, Cond.selects RX1 yX1_haveRisk yX1_haveRisk, Cond.code yX1_haveRisk cX1_haveRisk 3 (some .boolean), Cond.fieldLink RX1 18 "PastAndClear$Fleet" "approach" "LPastAndClear$Approach;", Cond.methodLink RX1 87 yX1_measure, Cond.instanceMethod yX1_measure, Cond.selects RX1 yX1_measure yX1_measure, Cond.code yX1_measure cX1_measure 19 none, Cond.fieldLink RX1 36 "PastAndClear$Fleet" "EAST" "[I", Cond.fieldLink RX1 39 "PastAndClear$Fleet" "NORTH" "[I", Cond.fieldLink RX1 95 "PastAndClear$Approach" "timeAbove" "J", Cond.fieldLink RX1 99 "PastAndClear$Approach" "timeBelow" "J", Cond.fieldLink RX1 102 "PastAndClear$Approach" "nearAbove" "J", Cond.fieldLink RX1 105 "PastAndClear$Approach" "nearBelow" "J", Cond.methodLink RX1 91 yX0_isRisk, Cond.instanceMethod yX0_isRisk, Cond.selects RX0 yX0_isRisk yX0_isRisk, Cond.initialized RX0, Cond.code yX0_isRisk cX0_isRisk 5 (some .boolean), Cond.fieldLink RX0 19 "PastAndClear$Approach" "nearAbove" "J", Cond.fieldLink RX0 13 "PastAndClear$Approach" "nearBelow" "J", Cond.fieldLink RX0 16 "PastAndClear$Approach" "timeAbove" "J", Cond.fieldLink RX0 7 "PastAndClear$Approach" "timeBelow" "J"]
def wsX4_looks_r3 : List Cond := [Cond.methodLink RX1 116 yX1_sectorOf, Cond.instanceMethod yX1_sectorOf, Cond.selects RX1 yX1_sectorOf yX1_sectorOf, Cond.code yX1_sectorOf cX1_sectorOf 9 (some .int), Cond.methodLink RX1 108 Lib.Math.abs.name, Cond.static Lib.Math.abs.name, Cond.initialized "java/lang/Math", Cond.code Lib.Math.abs.name Lib.Math.abs.code 1 (some .int), Cond.methodLink RX1 79 yX1_approachOf, Cond.instanceMethod yX1_approachOf, Cond.selects RX1 yX1_approachOf yX1_approachOf, Cond.code yX1_approachOf cX1_approachOf 3 (some (.object "PastAndClear$Approach")), Cond.methodLink RX1 83 yX0_isPastAndClear, Cond.instanceMethod yX0_isPastAndClear, Cond.selects RX0 yX0_isPastAndClear yX0_isPastAndClear, Cond.code yX0_isPastAndClear cX0_isPastAndClear 3 (some .boolean), Cond.methodLink RX4 66 yX1_givenWay, Cond.instanceMethod yX1_givenWay, Cond.selects RX1 yX1_givenWay yX1_givenWay, Cond.code yX1_givenWay cX1_givenWay 3 (some .int), Cond.methodLink RX4 42 yX4_changed, Cond.instanceMethod yX4_changed, Cond.selects RX4 yX4_changed yX4_changed, Cond.initialized RX4]
def wsX4_looks_r4 : List Cond := [Cond.code yX4_changed cX4_changed 2 (some .int), Cond.methodLink RX4 153 yX4_isRefusal, Cond.static yX4_isRefusal, Cond.code yX4_isRefusal cX4_isRefusal 1 (some .boolean), Cond.methodLink RX4 159 yX2_keep, Cond.instanceMethod yX2_keep, Cond.selects RX2 yX2_keep yX2_keep, Cond.code yX2_keep cX2_keep 1 none, Cond.methodLink RX4 80 yX4_answered, Cond.instanceMethod yX4_answered, Cond.selects RX4 yX4_answered yX4_answered, Cond.code yX4_answered cX4_answered 2 (some .int), Cond.fieldLink RX4 192 "PastAndClear" "bads" "I", Cond.fieldLink RX4 195 "PastAndClear" "noes" "I", Cond.fieldLink RX4 198 "PastAndClear" "fulls" "I"]
def wsX4_looks : List Cond := .code yX4_looks cX4_looks 1 (some .int) :: ((wsX4_looks_r1 ++ (wsX4_looks_r2 ++ (wsX4_looks_r3 ++ wsX4_looks_r4))) ++ wsX40 ++ wsX10 ++ wsX20 ++ wsX00)
def wsX4_obeys_r1 : List Cond := [Cond.fieldLink RX4 19 "PastAndClear" "history" "LPastAndClear$History;", Cond.fieldLink RX4 10 "PastAndClear" "fleet" "LPastAndClear$Fleet;", Cond.fieldLink RX4 30 "PastAndClear$Fleet" "cells" "[I", Cond.methodLink RX4 34 yX2_mark, Cond.instanceMethod yX2_mark, Cond.selects RX2 yX2_mark yX2_mark, Cond.initialized RX2, Cond.code yX2_mark cX2_mark 2 none, Cond.fieldLink RX2 11 "PastAndClear$History" "rows" "[I", Cond.fieldLink RX2 15 "PastAndClear$History" "kept" "I", Cond.methodLink RX2 19 arraycopyName, Cond.native arraycopyName, Cond.static arraycopyName, Cond.initialized "java/lang/System", Cond.methodLink RX4 70 yX1_adviceFor, Cond.instanceMethod yX1_adviceFor, Cond.selects RX1 yX1_adviceFor yX1_adviceFor, Cond.initialized RX1, Cond.code yX1_adviceFor cX1_adviceFor 2 (some .int), Cond.fieldLink RX1 11 "PastAndClear$Fleet" "cells" "[I", Cond.methodLink RX1 131 yX1_mustGiveWay, Cond.instanceMethod yX1_mustGiveWay, Cond.selects RX1 yX1_mustGiveWay yX1_mustGiveWay, Cond.code yX1_mustGiveWay cX1_mustGiveWay 3 (some .boolean)]
def wsX4_obeys_r2 : List Cond := [Cond.methodLink RX1 71 yX1_givenWay, Cond.instanceMethod yX1_givenWay, Cond.selects RX1 yX1_givenWay yX1_givenWay, Cond.code yX1_givenWay cX1_givenWay 3 (some .int), Cond.methodLink RX1 75 yX1_tableOf, Cond.instanceMethod yX1_tableOf, Cond.selects RX1 yX1_tableOf yX1_tableOf, Cond.code yX1_tableOf cX1_tableOf 5 (some .int), Cond.methodLink RX1 113 yX1_haveRisk, Cond.instanceMethod yX1_haveRisk, Cond.selects RX1 yX1_haveRisk yX1_haveRisk, Cond.code yX1_haveRisk cX1_haveRisk 3 (some .boolean), Cond.fieldLink RX1 18 "PastAndClear$Fleet" "approach" "LPastAndClear$Approach;", Cond.methodLink RX1 87 yX1_measure, Cond.instanceMethod yX1_measure, Cond.selects RX1 yX1_measure yX1_measure, Cond.code yX1_measure cX1_measure 19 none, Cond.fieldLink RX1 36 "PastAndClear$Fleet" "EAST" "[I", Cond.fieldLink RX1 39 "PastAndClear$Fleet" "NORTH" "[I", Cond.fieldLink RX1 95 "PastAndClear$Approach" "timeAbove" "J", Cond.fieldLink RX1 99 "PastAndClear$Approach" "timeBelow" "J", Cond.fieldLink RX1 102 "PastAndClear$Approach" "nearAbove" "J", Cond.fieldLink RX1 105 "PastAndClear$Approach" "nearBelow" "J", Cond.methodLink RX1 91 yX0_isRisk]
def wsX4_obeys_r3 : List Cond := [Cond.instanceMethod yX0_isRisk, Cond.selects RX0 yX0_isRisk yX0_isRisk, Cond.initialized RX0, Cond.code yX0_isRisk cX0_isRisk 5 (some .boolean), Cond.fieldLink RX0 19 "PastAndClear$Approach" "nearAbove" "J", Cond.fieldLink RX0 13 "PastAndClear$Approach" "nearBelow" "J", Cond.fieldLink RX0 16 "PastAndClear$Approach" "timeAbove" "J", Cond.fieldLink RX0 7 "PastAndClear$Approach" "timeBelow" "J", Cond.methodLink RX1 116 yX1_sectorOf, Cond.instanceMethod yX1_sectorOf, Cond.selects RX1 yX1_sectorOf yX1_sectorOf, Cond.code yX1_sectorOf cX1_sectorOf 9 (some .int), Cond.methodLink RX1 108 Lib.Math.abs.name, Cond.static Lib.Math.abs.name, Cond.initialized "java/lang/Math", Cond.code Lib.Math.abs.name Lib.Math.abs.code 1 (some .int), Cond.methodLink RX1 134 yX1_turnFor, Cond.instanceMethod yX1_turnFor, Cond.selects RX1 yX1_turnFor yX1_turnFor, Cond.code yX1_turnFor cX1_turnFor 6 (some .int), Cond.methodLink RX1 137 yX1_isClear, Cond.instanceMethod yX1_isClear, Cond.selects RX1 yX1_isClear yX1_isClear, Cond.code yX1_isClear cX1_isClear 5 (some .boolean)]
def wsX4_obeys_r4 : List Cond := [Cond.methodLink RX1 127 yX1_wouldRisk, Cond.instanceMethod yX1_wouldRisk, Cond.selects RX1 yX1_wouldRisk yX1_wouldRisk, Cond.code yX1_wouldRisk cX1_wouldRisk 5 (some .boolean), Cond.methodLink RX4 73 yX1_follow, Cond.instanceMethod yX1_follow, Cond.selects RX1 yX1_follow yX1_follow, Cond.code yX1_follow cX1_follow 2 (some .int), Cond.methodLink RX4 42 yX4_changed, Cond.instanceMethod yX4_changed, Cond.selects RX4 yX4_changed yX4_changed, Cond.initialized RX4, Cond.code yX4_changed cX4_changed 2 (some .int), Cond.methodLink RX4 153 yX4_isRefusal, Cond.static yX4_isRefusal, Cond.code yX4_isRefusal cX4_isRefusal 1 (some .boolean), Cond.methodLink RX4 159 yX2_keep, Cond.instanceMethod yX2_keep, Cond.selects RX2 yX2_keep yX2_keep, Cond.code yX2_keep cX2_keep 1 none, Cond.methodLink RX4 80 yX4_answered, Cond.instanceMethod yX4_answered, Cond.selects RX4 yX4_answered yX4_answered, Cond.code yX4_answered cX4_answered 2 (some .int)]
def wsX4_obeys_r5 : List Cond := [Cond.fieldLink RX4 192 "PastAndClear" "bads" "I", Cond.fieldLink RX4 195 "PastAndClear" "noes" "I", Cond.fieldLink RX4 198 "PastAndClear" "fulls" "I"]
def wsX4_obeys : List Cond := .code yX4_obeys cX4_obeys 1 (some .int) :: ((wsX4_obeys_r1 ++ (wsX4_obeys_r2 ++ (wsX4_obeys_r3 ++ (wsX4_obeys_r4 ++ wsX4_obeys_r5)))) ++ wsX40 ++ wsX10 ++ wsX20 ++ wsX00)
def wsX4_of_r1 : List Cond := [Cond.fieldLink RX4 10 "PastAndClear" "fleet" "LPastAndClear$Fleet;", Cond.methodLink RX4 76 yX1_isShip, Cond.instanceMethod yX1_isShip, Cond.selects RX1 yX1_isShip yX1_isShip, Cond.initialized RX1, Cond.code yX1_isShip cX1_isShip 2 (some .boolean), Cond.fieldLink RX1 11 "PastAndClear$Fleet" "cells" "[I", Cond.methodLink RX4 80 yX4_answered, Cond.instanceMethod yX4_answered, Cond.selects RX4 yX4_answered yX4_answered, Cond.initialized RX4, Cond.code yX4_answered cX4_answered 2 (some .int), Cond.fieldLink RX4 192 "PastAndClear" "bads" "I", Cond.fieldLink RX4 195 "PastAndClear" "noes" "I", Cond.fieldLink RX4 198 "PastAndClear" "fulls" "I", Cond.methodLink RX4 83 yX1_partOf, Cond.instanceMethod yX1_partOf, Cond.selects RX1 yX1_partOf yX1_partOf, Cond.code yX1_partOf cX1_partOf 3 (some .int), Cond.methodLink RX1 29 yX1_eastward, Cond.instanceMethod yX1_eastward, Cond.selects RX1 yX1_eastward yX1_eastward, Cond.code yX1_eastward cX1_eastward 2 (some .int), Cond.fieldLink RX1 36 "PastAndClear$Fleet" "EAST" "[I"]
def wsX4_of_r2 : List Cond := [Cond.methodLink RX1 33 yX1_northward, Cond.instanceMethod yX1_northward, Cond.selects RX1 yX1_northward yX1_northward, Cond.code yX1_northward cX1_northward 2 (some .int), Cond.fieldLink RX1 39 "PastAndClear$Fleet" "NORTH" "[I"]
def wsX4_of : List Cond := .code yX4_of cX4_of 3 (some .int) :: ((wsX4_of_r1 ++ wsX4_of_r2) ++ wsX40 ++ wsX10)
def wsX4_closest_r1 : List Cond := [Cond.fieldLink RX4 10 "PastAndClear" "fleet" "LPastAndClear$Fleet;", Cond.methodLink RX4 86 yX1_isPair, Cond.instanceMethod yX1_isPair, Cond.selects RX1 yX1_isPair yX1_isPair, Cond.initialized RX1, Cond.code yX1_isPair cX1_isPair 3 (some .boolean), Cond.methodLink RX1 25 yX1_isShip, Cond.instanceMethod yX1_isShip, Cond.selects RX1 yX1_isShip yX1_isShip, Cond.code yX1_isShip cX1_isShip 2 (some .boolean), Cond.fieldLink RX1 11 "PastAndClear$Fleet" "cells" "[I", Cond.methodLink RX4 80 yX4_answered, Cond.instanceMethod yX4_answered, Cond.selects RX4 yX4_answered yX4_answered, Cond.initialized RX4, Cond.code yX4_answered cX4_answered 2 (some .int), Cond.fieldLink RX4 192 "PastAndClear" "bads" "I", Cond.fieldLink RX4 195 "PastAndClear" "noes" "I", Cond.fieldLink RX4 198 "PastAndClear" "fulls" "I", Cond.methodLink RX4 90 yX1_approachOf, Cond.instanceMethod yX1_approachOf, Cond.selects RX1 yX1_approachOf yX1_approachOf, Cond.code yX1_approachOf cX1_approachOf 3 (some (.object "PastAndClear$Approach")), Cond.fieldLink RX1 18 "PastAndClear$Fleet" "approach" "LPastAndClear$Approach;"]
def wsX4_closest_r2 : List Cond := [Cond.methodLink RX1 87 yX1_measure, Cond.instanceMethod yX1_measure, Cond.selects RX1 yX1_measure yX1_measure, Cond.code yX1_measure cX1_measure 19 none, Cond.fieldLink RX1 36 "PastAndClear$Fleet" "EAST" "[I", Cond.fieldLink RX1 39 "PastAndClear$Fleet" "NORTH" "[I", Cond.fieldLink RX1 95 "PastAndClear$Approach" "timeAbove" "J", Cond.fieldLink RX1 99 "PastAndClear$Approach" "timeBelow" "J", Cond.fieldLink RX1 102 "PastAndClear$Approach" "nearAbove" "J", Cond.fieldLink RX1 105 "PastAndClear$Approach" "nearBelow" "J", Cond.methodLink RX4 94 yX0_part, Cond.instanceMethod yX0_part, Cond.selects RX0 yX0_part yX0_part, Cond.initialized RX0, Cond.code yX0_part cX0_part 2 (some .long), Cond.fieldLink RX0 16 "PastAndClear$Approach" "timeAbove" "J", Cond.fieldLink RX0 7 "PastAndClear$Approach" "timeBelow" "J", Cond.fieldLink RX0 19 "PastAndClear$Approach" "nearAbove" "J", Cond.fieldLink RX0 13 "PastAndClear$Approach" "nearBelow" "J", Cond.methodLink RX0 22 yX0_lowest, Cond.static yX0_lowest, Cond.code yX0_lowest cX0_lowest 7 (some .long), Cond.methodLink RX0 26 yX0_sharedDivisor, Cond.static yX0_sharedDivisor]
def wsX4_closest_r3 : List Cond := [Cond.code yX0_sharedDivisor cX0_sharedDivisor 7 (some .long)]
def wsX4_closest : List Cond := .code yX4_closest cX4_closest 4 (some .long) :: ((wsX4_closest_r1 ++ (wsX4_closest_r2 ++ wsX4_closest_r3)) ++ wsX40 ++ wsX10 ++ wsX00)
def wsX4_risk_r1 : List Cond := [Cond.fieldLink RX4 10 "PastAndClear" "fleet" "LPastAndClear$Fleet;", Cond.methodLink RX4 86 yX1_isPair, Cond.instanceMethod yX1_isPair, Cond.selects RX1 yX1_isPair yX1_isPair, Cond.initialized RX1, Cond.code yX1_isPair cX1_isPair 3 (some .boolean), Cond.methodLink RX1 25 yX1_isShip, Cond.instanceMethod yX1_isShip, Cond.selects RX1 yX1_isShip yX1_isShip, Cond.code yX1_isShip cX1_isShip 2 (some .boolean), Cond.fieldLink RX1 11 "PastAndClear$Fleet" "cells" "[I", Cond.methodLink RX4 80 yX4_answered, Cond.instanceMethod yX4_answered, Cond.selects RX4 yX4_answered yX4_answered, Cond.initialized RX4, Cond.code yX4_answered cX4_answered 2 (some .int), Cond.fieldLink RX4 192 "PastAndClear" "bads" "I", Cond.fieldLink RX4 195 "PastAndClear" "noes" "I", Cond.fieldLink RX4 198 "PastAndClear" "fulls" "I", Cond.methodLink RX4 100 yX1_haveRisk, Cond.instanceMethod yX1_haveRisk, Cond.selects RX1 yX1_haveRisk yX1_haveRisk, Cond.code yX1_haveRisk cX1_haveRisk 3 (some .boolean), Cond.fieldLink RX1 18 "PastAndClear$Fleet" "approach" "LPastAndClear$Approach;"]
def wsX4_risk_r2 : List Cond := [Cond.methodLink RX1 87 yX1_measure, Cond.instanceMethod yX1_measure, Cond.selects RX1 yX1_measure yX1_measure, Cond.code yX1_measure cX1_measure 19 none, Cond.fieldLink RX1 36 "PastAndClear$Fleet" "EAST" "[I", Cond.fieldLink RX1 39 "PastAndClear$Fleet" "NORTH" "[I", Cond.fieldLink RX1 95 "PastAndClear$Approach" "timeAbove" "J", Cond.fieldLink RX1 99 "PastAndClear$Approach" "timeBelow" "J", Cond.fieldLink RX1 102 "PastAndClear$Approach" "nearAbove" "J", Cond.fieldLink RX1 105 "PastAndClear$Approach" "nearBelow" "J", Cond.methodLink RX1 91 yX0_isRisk, Cond.instanceMethod yX0_isRisk, Cond.selects RX0 yX0_isRisk yX0_isRisk, Cond.initialized RX0, Cond.code yX0_isRisk cX0_isRisk 5 (some .boolean), Cond.fieldLink RX0 19 "PastAndClear$Approach" "nearAbove" "J", Cond.fieldLink RX0 13 "PastAndClear$Approach" "nearBelow" "J", Cond.fieldLink RX0 16 "PastAndClear$Approach" "timeAbove" "J", Cond.fieldLink RX0 7 "PastAndClear$Approach" "timeBelow" "J"]
def wsX4_risk : List Cond := .code yX4_risk cX4_risk 3 (some .int) :: ((wsX4_risk_r1 ++ wsX4_risk_r2) ++ wsX40 ++ wsX10 ++ wsX00)
def wsX4_sector_r1 : List Cond := [Cond.fieldLink RX4 10 "PastAndClear" "fleet" "LPastAndClear$Fleet;", Cond.methodLink RX4 86 yX1_isPair, Cond.instanceMethod yX1_isPair, Cond.selects RX1 yX1_isPair yX1_isPair, Cond.initialized RX1, Cond.code yX1_isPair cX1_isPair 3 (some .boolean), Cond.methodLink RX1 25 yX1_isShip, Cond.instanceMethod yX1_isShip, Cond.selects RX1 yX1_isShip yX1_isShip, Cond.code yX1_isShip cX1_isShip 2 (some .boolean), Cond.fieldLink RX1 11 "PastAndClear$Fleet" "cells" "[I", Cond.methodLink RX4 80 yX4_answered, Cond.instanceMethod yX4_answered, Cond.selects RX4 yX4_answered yX4_answered, Cond.initialized RX4, Cond.code yX4_answered cX4_answered 2 (some .int), Cond.fieldLink RX4 192 "PastAndClear" "bads" "I", Cond.fieldLink RX4 195 "PastAndClear" "noes" "I", Cond.fieldLink RX4 198 "PastAndClear" "fulls" "I", Cond.methodLink RX4 103 yX1_sectorOf, Cond.instanceMethod yX1_sectorOf, Cond.selects RX1 yX1_sectorOf yX1_sectorOf, Cond.code yX1_sectorOf cX1_sectorOf 9 (some .int), Cond.fieldLink RX1 36 "PastAndClear$Fleet" "EAST" "[I"]
def wsX4_sector_r2 : List Cond := [Cond.fieldLink RX1 39 "PastAndClear$Fleet" "NORTH" "[I", Cond.methodLink RX1 108 Lib.Math.abs.name, Cond.static Lib.Math.abs.name, Cond.initialized "java/lang/Math", Cond.code Lib.Math.abs.name Lib.Math.abs.code 1 (some .int)]
def wsX4_sector : List Cond := .code yX4_sector cX4_sector 3 (some .int) :: ((wsX4_sector_r1 ++ wsX4_sector_r2) ++ wsX40 ++ wsX10)
def wsX4_table_r1 : List Cond := [Cond.fieldLink RX4 10 "PastAndClear" "fleet" "LPastAndClear$Fleet;", Cond.methodLink RX4 86 yX1_isPair, Cond.instanceMethod yX1_isPair, Cond.selects RX1 yX1_isPair yX1_isPair, Cond.initialized RX1, Cond.code yX1_isPair cX1_isPair 3 (some .boolean), Cond.methodLink RX1 25 yX1_isShip, Cond.instanceMethod yX1_isShip, Cond.selects RX1 yX1_isShip yX1_isShip, Cond.code yX1_isShip cX1_isShip 2 (some .boolean), Cond.fieldLink RX1 11 "PastAndClear$Fleet" "cells" "[I", Cond.methodLink RX4 80 yX4_answered, Cond.instanceMethod yX4_answered, Cond.selects RX4 yX4_answered yX4_answered, Cond.initialized RX4, Cond.code yX4_answered cX4_answered 2 (some .int), Cond.fieldLink RX4 192 "PastAndClear" "bads" "I", Cond.fieldLink RX4 195 "PastAndClear" "noes" "I", Cond.fieldLink RX4 198 "PastAndClear" "fulls" "I", Cond.methodLink RX4 106 yX1_tableOf, Cond.instanceMethod yX1_tableOf, Cond.selects RX1 yX1_tableOf yX1_tableOf, Cond.code yX1_tableOf cX1_tableOf 5 (some .int), Cond.methodLink RX1 113 yX1_haveRisk]
def wsX4_table_r2 : List Cond := [Cond.instanceMethod yX1_haveRisk, Cond.selects RX1 yX1_haveRisk yX1_haveRisk, Cond.code yX1_haveRisk cX1_haveRisk 3 (some .boolean), Cond.fieldLink RX1 18 "PastAndClear$Fleet" "approach" "LPastAndClear$Approach;", Cond.methodLink RX1 87 yX1_measure, Cond.instanceMethod yX1_measure, Cond.selects RX1 yX1_measure yX1_measure, Cond.code yX1_measure cX1_measure 19 none, Cond.fieldLink RX1 36 "PastAndClear$Fleet" "EAST" "[I", Cond.fieldLink RX1 39 "PastAndClear$Fleet" "NORTH" "[I", Cond.fieldLink RX1 95 "PastAndClear$Approach" "timeAbove" "J", Cond.fieldLink RX1 99 "PastAndClear$Approach" "timeBelow" "J", Cond.fieldLink RX1 102 "PastAndClear$Approach" "nearAbove" "J", Cond.fieldLink RX1 105 "PastAndClear$Approach" "nearBelow" "J", Cond.methodLink RX1 91 yX0_isRisk, Cond.instanceMethod yX0_isRisk, Cond.selects RX0 yX0_isRisk yX0_isRisk, Cond.initialized RX0, Cond.code yX0_isRisk cX0_isRisk 5 (some .boolean), Cond.fieldLink RX0 19 "PastAndClear$Approach" "nearAbove" "J", Cond.fieldLink RX0 13 "PastAndClear$Approach" "nearBelow" "J", Cond.fieldLink RX0 16 "PastAndClear$Approach" "timeAbove" "J", Cond.fieldLink RX0 7 "PastAndClear$Approach" "timeBelow" "J", Cond.methodLink RX1 116 yX1_sectorOf]
def wsX4_table_r3 : List Cond := [Cond.instanceMethod yX1_sectorOf, Cond.selects RX1 yX1_sectorOf yX1_sectorOf, Cond.code yX1_sectorOf cX1_sectorOf 9 (some .int), Cond.methodLink RX1 108 Lib.Math.abs.name, Cond.static Lib.Math.abs.name, Cond.initialized "java/lang/Math", Cond.code Lib.Math.abs.name Lib.Math.abs.code 1 (some .int)]
def wsX4_table : List Cond := .code yX4_table cX4_table 3 (some .int) :: ((wsX4_table_r1 ++ (wsX4_table_r2 ++ wsX4_table_r3)) ++ wsX40 ++ wsX10 ++ wsX00)
def wsX4_duty : List Cond := .code yX4_duty cX4_duty 2 (some .int) :: ([.fieldLink RX4 10 "PastAndClear" "fleet" "LPastAndClear$Fleet;", .methodLink RX4 109 yX1_isOther, .instanceMethod yX1_isOther, .selects RX1 yX1_isOther yX1_isOther, .initialized RX1, .code yX1_isOther cX1_isOther 2 (some .boolean), .fieldLink RX1 11 "PastAndClear$Fleet" "cells" "[I", .methodLink RX4 80 yX4_answered, .instanceMethod yX4_answered, .selects RX4 yX4_answered yX4_answered, .initialized RX4, .code yX4_answered cX4_answered 2 (some .int), .fieldLink RX4 192 "PastAndClear" "bads" "I", .fieldLink RX4 195 "PastAndClear" "noes" "I", .fieldLink RX4 198 "PastAndClear" "fulls" "I", .methodLink RX4 112 yX1_dutyTo, .instanceMethod yX1_dutyTo, .selects RX1 yX1_dutyTo yX1_dutyTo, .code yX1_dutyTo cX1_dutyTo 2 (some .int)] ++ wsX40 ++ wsX10)
def wsX4_worst_r1 : List Cond := [Cond.fieldLink RX4 10 "PastAndClear" "fleet" "LPastAndClear$Fleet;", Cond.methodLink RX4 115 yX1_worstOther, Cond.instanceMethod yX1_worstOther, Cond.selects RX1 yX1_worstOther yX1_worstOther, Cond.initialized RX1, Cond.code yX1_worstOther cX1_worstOther 3 (some .int), Cond.fieldLink RX1 11 "PastAndClear$Fleet" "cells" "[I", Cond.fieldLink RX1 18 "PastAndClear$Fleet" "approach" "LPastAndClear$Approach;", Cond.fieldLink RX1 22 "PastAndClear$Fleet" "worstYet" "LPastAndClear$Approach;", Cond.methodLink RX1 113 yX1_haveRisk, Cond.instanceMethod yX1_haveRisk, Cond.selects RX1 yX1_haveRisk yX1_haveRisk, Cond.code yX1_haveRisk cX1_haveRisk 3 (some .boolean), Cond.methodLink RX1 87 yX1_measure, Cond.instanceMethod yX1_measure, Cond.selects RX1 yX1_measure yX1_measure, Cond.code yX1_measure cX1_measure 19 none, Cond.fieldLink RX1 36 "PastAndClear$Fleet" "EAST" "[I", Cond.fieldLink RX1 39 "PastAndClear$Fleet" "NORTH" "[I", Cond.fieldLink RX1 95 "PastAndClear$Approach" "timeAbove" "J", Cond.fieldLink RX1 99 "PastAndClear$Approach" "timeBelow" "J", Cond.fieldLink RX1 102 "PastAndClear$Approach" "nearAbove" "J", Cond.fieldLink RX1 105 "PastAndClear$Approach" "nearBelow" "J", Cond.methodLink RX1 91 yX0_isRisk]
def wsX4_worst_r2 : List Cond := [Cond.instanceMethod yX0_isRisk, Cond.selects RX0 yX0_isRisk yX0_isRisk, Cond.initialized RX0, Cond.code yX0_isRisk cX0_isRisk 5 (some .boolean), Cond.fieldLink RX0 19 "PastAndClear$Approach" "nearAbove" "J", Cond.fieldLink RX0 13 "PastAndClear$Approach" "nearBelow" "J", Cond.fieldLink RX0 16 "PastAndClear$Approach" "timeAbove" "J", Cond.fieldLink RX0 7 "PastAndClear$Approach" "timeBelow" "J", Cond.methodLink RX1 119 yX0_isWorse, Cond.instanceMethod yX0_isWorse, Cond.selects RX0 yX0_isWorse yX0_isWorse, Cond.code yX0_isWorse cX0_isWorse 4 (some .boolean), Cond.methodLink RX1 123 yX0_take, Cond.instanceMethod yX0_take, Cond.selects RX0 yX0_take yX0_take, Cond.code yX0_take cX0_take 2 none]
def wsX4_worst : List Cond := .code yX4_worst cX4_worst 1 (some .int) :: ((wsX4_worst_r1 ++ wsX4_worst_r2) ++ wsX40 ++ wsX10 ++ wsX00)
def wsX4_clear_r1 : List Cond := [Cond.fieldLink RX4 10 "PastAndClear" "fleet" "LPastAndClear$Fleet;", Cond.methodLink RX4 76 yX1_isShip, Cond.instanceMethod yX1_isShip, Cond.selects RX1 yX1_isShip yX1_isShip, Cond.initialized RX1, Cond.code yX1_isShip cX1_isShip 2 (some .boolean), Cond.fieldLink RX1 11 "PastAndClear$Fleet" "cells" "[I", Cond.methodLink RX4 118 yX4_isCourse, Cond.static yX4_isCourse, Cond.initialized RX4, Cond.code yX4_isCourse cX4_isCourse 2 (some .boolean), Cond.methodLink RX4 80 yX4_answered, Cond.instanceMethod yX4_answered, Cond.selects RX4 yX4_answered yX4_answered, Cond.code yX4_answered cX4_answered 2 (some .int), Cond.fieldLink RX4 192 "PastAndClear" "bads" "I", Cond.fieldLink RX4 195 "PastAndClear" "noes" "I", Cond.fieldLink RX4 198 "PastAndClear" "fulls" "I", Cond.methodLink RX4 121 yX1_isClear, Cond.instanceMethod yX1_isClear, Cond.selects RX1 yX1_isClear yX1_isClear, Cond.code yX1_isClear cX1_isClear 5 (some .boolean), Cond.methodLink RX1 127 yX1_wouldRisk, Cond.instanceMethod yX1_wouldRisk]
def wsX4_clear_r2 : List Cond := [Cond.selects RX1 yX1_wouldRisk yX1_wouldRisk, Cond.code yX1_wouldRisk cX1_wouldRisk 5 (some .boolean), Cond.fieldLink RX1 18 "PastAndClear$Fleet" "approach" "LPastAndClear$Approach;", Cond.methodLink RX1 87 yX1_measure, Cond.instanceMethod yX1_measure, Cond.selects RX1 yX1_measure yX1_measure, Cond.code yX1_measure cX1_measure 19 none, Cond.fieldLink RX1 36 "PastAndClear$Fleet" "EAST" "[I", Cond.fieldLink RX1 39 "PastAndClear$Fleet" "NORTH" "[I", Cond.fieldLink RX1 95 "PastAndClear$Approach" "timeAbove" "J", Cond.fieldLink RX1 99 "PastAndClear$Approach" "timeBelow" "J", Cond.fieldLink RX1 102 "PastAndClear$Approach" "nearAbove" "J", Cond.fieldLink RX1 105 "PastAndClear$Approach" "nearBelow" "J", Cond.methodLink RX1 91 yX0_isRisk, Cond.instanceMethod yX0_isRisk, Cond.selects RX0 yX0_isRisk yX0_isRisk, Cond.initialized RX0, Cond.code yX0_isRisk cX0_isRisk 5 (some .boolean), Cond.fieldLink RX0 19 "PastAndClear$Approach" "nearAbove" "J", Cond.fieldLink RX0 13 "PastAndClear$Approach" "nearBelow" "J", Cond.fieldLink RX0 16 "PastAndClear$Approach" "timeAbove" "J", Cond.fieldLink RX0 7 "PastAndClear$Approach" "timeBelow" "J"]
def wsX4_clear : List Cond := .code yX4_clear cX4_clear 4 (some .int) :: ((wsX4_clear_r1 ++ wsX4_clear_r2) ++ wsX40 ++ wsX10 ++ wsX00)
def wsX4_blocked_r1 : List Cond := [Cond.fieldLink RX4 10 "PastAndClear" "fleet" "LPastAndClear$Fleet;", Cond.methodLink RX4 109 yX1_isOther, Cond.instanceMethod yX1_isOther, Cond.selects RX1 yX1_isOther yX1_isOther, Cond.initialized RX1, Cond.code yX1_isOther cX1_isOther 2 (some .boolean), Cond.fieldLink RX1 11 "PastAndClear$Fleet" "cells" "[I", Cond.methodLink RX4 80 yX4_answered, Cond.instanceMethod yX4_answered, Cond.selects RX4 yX4_answered yX4_answered, Cond.initialized RX4, Cond.code yX4_answered cX4_answered 2 (some .int), Cond.fieldLink RX4 192 "PastAndClear" "bads" "I", Cond.fieldLink RX4 195 "PastAndClear" "noes" "I", Cond.fieldLink RX4 198 "PastAndClear" "fulls" "I", Cond.methodLink RX4 125 yX1_blockedBy, Cond.instanceMethod yX1_blockedBy, Cond.selects RX1 yX1_blockedBy yX1_blockedBy, Cond.code yX1_blockedBy cX1_blockedBy 4 (some .int), Cond.methodLink RX1 127 yX1_wouldRisk, Cond.instanceMethod yX1_wouldRisk, Cond.selects RX1 yX1_wouldRisk yX1_wouldRisk, Cond.code yX1_wouldRisk cX1_wouldRisk 5 (some .boolean), Cond.fieldLink RX1 18 "PastAndClear$Fleet" "approach" "LPastAndClear$Approach;"]
def wsX4_blocked_r2 : List Cond := [Cond.methodLink RX1 87 yX1_measure, Cond.instanceMethod yX1_measure, Cond.selects RX1 yX1_measure yX1_measure, Cond.code yX1_measure cX1_measure 19 none, Cond.fieldLink RX1 36 "PastAndClear$Fleet" "EAST" "[I", Cond.fieldLink RX1 39 "PastAndClear$Fleet" "NORTH" "[I", Cond.fieldLink RX1 95 "PastAndClear$Approach" "timeAbove" "J", Cond.fieldLink RX1 99 "PastAndClear$Approach" "timeBelow" "J", Cond.fieldLink RX1 102 "PastAndClear$Approach" "nearAbove" "J", Cond.fieldLink RX1 105 "PastAndClear$Approach" "nearBelow" "J", Cond.methodLink RX1 91 yX0_isRisk, Cond.instanceMethod yX0_isRisk, Cond.selects RX0 yX0_isRisk yX0_isRisk, Cond.initialized RX0, Cond.code yX0_isRisk cX0_isRisk 5 (some .boolean), Cond.fieldLink RX0 19 "PastAndClear$Approach" "nearAbove" "J", Cond.fieldLink RX0 13 "PastAndClear$Approach" "nearBelow" "J", Cond.fieldLink RX0 16 "PastAndClear$Approach" "timeAbove" "J", Cond.fieldLink RX0 7 "PastAndClear$Approach" "timeBelow" "J"]
def wsX4_blocked : List Cond := .code yX4_blocked cX4_blocked 2 (some .int) :: ((wsX4_blocked_r1 ++ wsX4_blocked_r2) ++ wsX40 ++ wsX10 ++ wsX00)
def wsX4_advice_r1 : List Cond := [Cond.fieldLink RX4 10 "PastAndClear" "fleet" "LPastAndClear$Fleet;", Cond.methodLink RX4 76 yX1_isShip, Cond.instanceMethod yX1_isShip, Cond.selects RX1 yX1_isShip yX1_isShip, Cond.initialized RX1, Cond.code yX1_isShip cX1_isShip 2 (some .boolean), Cond.fieldLink RX1 11 "PastAndClear$Fleet" "cells" "[I", Cond.methodLink RX4 80 yX4_answered, Cond.instanceMethod yX4_answered, Cond.selects RX4 yX4_answered yX4_answered, Cond.initialized RX4, Cond.code yX4_answered cX4_answered 2 (some .int), Cond.fieldLink RX4 192 "PastAndClear" "bads" "I", Cond.fieldLink RX4 195 "PastAndClear" "noes" "I", Cond.fieldLink RX4 198 "PastAndClear" "fulls" "I", Cond.methodLink RX4 70 yX1_adviceFor, Cond.instanceMethod yX1_adviceFor, Cond.selects RX1 yX1_adviceFor yX1_adviceFor, Cond.code yX1_adviceFor cX1_adviceFor 2 (some .int), Cond.methodLink RX1 131 yX1_mustGiveWay, Cond.instanceMethod yX1_mustGiveWay, Cond.selects RX1 yX1_mustGiveWay yX1_mustGiveWay, Cond.code yX1_mustGiveWay cX1_mustGiveWay 3 (some .boolean), Cond.methodLink RX1 71 yX1_givenWay]
def wsX4_advice_r2 : List Cond := [Cond.instanceMethod yX1_givenWay, Cond.selects RX1 yX1_givenWay yX1_givenWay, Cond.code yX1_givenWay cX1_givenWay 3 (some .int), Cond.methodLink RX1 75 yX1_tableOf, Cond.instanceMethod yX1_tableOf, Cond.selects RX1 yX1_tableOf yX1_tableOf, Cond.code yX1_tableOf cX1_tableOf 5 (some .int), Cond.methodLink RX1 113 yX1_haveRisk, Cond.instanceMethod yX1_haveRisk, Cond.selects RX1 yX1_haveRisk yX1_haveRisk, Cond.code yX1_haveRisk cX1_haveRisk 3 (some .boolean), Cond.fieldLink RX1 18 "PastAndClear$Fleet" "approach" "LPastAndClear$Approach;", Cond.methodLink RX1 87 yX1_measure, Cond.instanceMethod yX1_measure, Cond.selects RX1 yX1_measure yX1_measure, Cond.code yX1_measure cX1_measure 19 none, Cond.fieldLink RX1 36 "PastAndClear$Fleet" "EAST" "[I", Cond.fieldLink RX1 39 "PastAndClear$Fleet" "NORTH" "[I", Cond.fieldLink RX1 95 "PastAndClear$Approach" "timeAbove" "J", Cond.fieldLink RX1 99 "PastAndClear$Approach" "timeBelow" "J", Cond.fieldLink RX1 102 "PastAndClear$Approach" "nearAbove" "J", Cond.fieldLink RX1 105 "PastAndClear$Approach" "nearBelow" "J", Cond.methodLink RX1 91 yX0_isRisk, Cond.instanceMethod yX0_isRisk]
def wsX4_advice_r3 : List Cond := [Cond.selects RX0 yX0_isRisk yX0_isRisk, Cond.initialized RX0, Cond.code yX0_isRisk cX0_isRisk 5 (some .boolean), Cond.fieldLink RX0 19 "PastAndClear$Approach" "nearAbove" "J", Cond.fieldLink RX0 13 "PastAndClear$Approach" "nearBelow" "J", Cond.fieldLink RX0 16 "PastAndClear$Approach" "timeAbove" "J", Cond.fieldLink RX0 7 "PastAndClear$Approach" "timeBelow" "J", Cond.methodLink RX1 116 yX1_sectorOf, Cond.instanceMethod yX1_sectorOf, Cond.selects RX1 yX1_sectorOf yX1_sectorOf, Cond.code yX1_sectorOf cX1_sectorOf 9 (some .int), Cond.methodLink RX1 108 Lib.Math.abs.name, Cond.static Lib.Math.abs.name, Cond.initialized "java/lang/Math", Cond.code Lib.Math.abs.name Lib.Math.abs.code 1 (some .int), Cond.methodLink RX1 134 yX1_turnFor, Cond.instanceMethod yX1_turnFor, Cond.selects RX1 yX1_turnFor yX1_turnFor, Cond.code yX1_turnFor cX1_turnFor 6 (some .int), Cond.methodLink RX1 137 yX1_isClear, Cond.instanceMethod yX1_isClear, Cond.selects RX1 yX1_isClear yX1_isClear, Cond.code yX1_isClear cX1_isClear 5 (some .boolean), Cond.methodLink RX1 127 yX1_wouldRisk]
def wsX4_advice_r4 : List Cond := [Cond.instanceMethod yX1_wouldRisk, Cond.selects RX1 yX1_wouldRisk yX1_wouldRisk, Cond.code yX1_wouldRisk cX1_wouldRisk 5 (some .boolean)]
def wsX4_advice : List Cond := .code yX4_advice cX4_advice 2 (some .int) :: ((wsX4_advice_r1 ++ (wsX4_advice_r2 ++ (wsX4_advice_r3 ++ wsX4_advice_r4))) ++ wsX40 ++ wsX10 ++ wsX00)
def wsX4_count : List Cond := .code yX4_count cX4_count 2 (some .int) :: ([.fieldLink RX4 10 "PastAndClear" "fleet" "LPastAndClear$Fleet;", .methodLink RX4 80 yX4_answered, .instanceMethod yX4_answered, .selects RX4 yX4_answered yX4_answered, .initialized RX4, .code yX4_answered cX4_answered 2 (some .int), .fieldLink RX4 192 "PastAndClear" "bads" "I", .fieldLink RX4 195 "PastAndClear" "noes" "I", .fieldLink RX4 198 "PastAndClear" "fulls" "I", .methodLink RX4 128 yX1_countOf, .instanceMethod yX1_countOf, .selects RX1 yX1_countOf yX1_countOf, .initialized RX1, .code yX1_countOf cX1_countOf 2 (some .int), .fieldLink RX1 11 "PastAndClear$Fleet" "cells" "[I"] ++ wsX40 ++ wsX10)
def wsX4_type : List Cond := .code yX4_type cX4_type 2 (some .int) :: ([.fieldLink RX4 26 "PastAndClear" "script" "LPastAndClear$Script;", .methodLink RX4 131 yX3_append, .instanceMethod yX3_append, .selects RX3 yX3_append yX3_append, .initialized RX3, .code yX3_append cX3_append 2 (some .int), .fieldLink RX3 19 "PastAndClear$Script" "length" "I", .fieldLink RX3 11 "PastAndClear$Script" "bytes" "[B", .methodLink RX4 80 yX4_answered, .instanceMethod yX4_answered, .selects RX4 yX4_answered yX4_answered, .initialized RX4, .code yX4_answered cX4_answered 2 (some .int), .fieldLink RX4 192 "PastAndClear" "bads" "I", .fieldLink RX4 195 "PastAndClear" "noes" "I", .fieldLink RX4 198 "PastAndClear" "fulls" "I"] ++ wsX40 ++ wsX30)
def wsX4_wipes : List Cond := .code yX4_wipes cX4_wipes 1 (some .int) :: ([.fieldLink RX4 26 "PastAndClear" "script" "LPastAndClear$Script;", .methodLink RX4 134 yX3_empty, .instanceMethod yX3_empty, .selects RX3 yX3_empty yX3_empty, .initialized RX3, .code yX3_empty cX3_empty 2 (some .int), .fieldLink RX3 19 "PastAndClear$Script" "length" "I"] ++ wsX40 ++ wsX30)
def wsX4_perform_r1 : List Cond := [Cond.fieldLink RX4 26 "PastAndClear" "script" "LPastAndClear$Script;", Cond.fieldLink RX4 186 "PastAndClear$Script" "numbers" "[I", Cond.fieldLink RX4 189 "PastAndClear$Script" "kind" "I", Cond.fieldLink RX4 10 "PastAndClear" "fleet" "LPastAndClear$Fleet;", Cond.methodLink RX4 38 yX1_join, Cond.instanceMethod yX1_join, Cond.selects RX1 yX1_join yX1_join, Cond.initialized RX1, Cond.code yX1_join cX1_join 5 (some .int), Cond.fieldLink RX1 11 "PastAndClear$Fleet" "cells" "[I", Cond.methodLink RX1 42 yX1_isPlace, Cond.static yX1_isPlace, Cond.code yX1_isPlace cX1_isPlace 1 (some .boolean), Cond.static yX4_isCourse, Cond.initialized RX4, Cond.code yX4_isCourse cX4_isCourse 2 (some .boolean), Cond.methodLink RX1 49 yX1_put, Cond.instanceMethod yX1_put, Cond.selects RX1 yX1_put yX1_put, Cond.code yX1_put cX1_put 7 none, Cond.methodLink RX4 46 yX1_placeOwn, Cond.instanceMethod yX1_placeOwn, Cond.selects RX1 yX1_placeOwn yX1_placeOwn, Cond.code yX1_placeOwn cX1_placeOwn 6 (some .int)]
def wsX4_perform_r2 : List Cond := [Cond.methodLink RX4 52 yX1_steer, Cond.instanceMethod yX1_steer, Cond.selects RX1 yX1_steer yX1_steer, Cond.code yX1_steer cX1_steer 5 (some .int), Cond.methodLink RX1 25 yX1_isShip, Cond.instanceMethod yX1_isShip, Cond.selects RX1 yX1_isShip yX1_isShip, Cond.code yX1_isShip cX1_isShip 2 (some .boolean), Cond.methodLink RX4 60 yX1_goOn, Cond.instanceMethod yX1_goOn, Cond.selects RX1 yX1_goOn yX1_goOn, Cond.code yX1_goOn cX1_goOn 3 (some .int), Cond.methodLink RX1 62 yX1_staysInside, Cond.instanceMethod yX1_staysInside, Cond.selects RX1 yX1_staysInside yX1_staysInside, Cond.code yX1_staysInside cX1_staysInside 3 (some .boolean), Cond.methodLink RX1 29 yX1_eastward, Cond.instanceMethod yX1_eastward, Cond.selects RX1 yX1_eastward yX1_eastward, Cond.code yX1_eastward cX1_eastward 2 (some .int), Cond.fieldLink RX1 36 "PastAndClear$Fleet" "EAST" "[I", Cond.methodLink RX1 33 yX1_northward, Cond.instanceMethod yX1_northward, Cond.selects RX1 yX1_northward yX1_northward]
def wsX4_perform_r3 : List Cond := [Cond.code yX1_northward cX1_northward 2 (some .int), Cond.fieldLink RX1 39 "PastAndClear$Fleet" "NORTH" "[I", Cond.methodLink RX1 65 yX1_moveAll, Cond.instanceMethod yX1_moveAll, Cond.selects RX1 yX1_moveAll yX1_moveAll, Cond.code yX1_moveAll cX1_moveAll 2 none, Cond.methodLink RX1 68 yX1_look, Cond.instanceMethod yX1_look, Cond.selects RX1 yX1_look yX1_look, Cond.code yX1_look cX1_look 2 none, Cond.methodLink RX1 75 yX1_tableOf, Cond.instanceMethod yX1_tableOf, Cond.selects RX1 yX1_tableOf yX1_tableOf, Cond.code yX1_tableOf cX1_tableOf 5 (some .int), Cond.methodLink RX1 113 yX1_haveRisk, Cond.instanceMethod yX1_haveRisk, Cond.selects RX1 yX1_haveRisk yX1_haveRisk, Cond.code yX1_haveRisk cX1_haveRisk 3 (some .boolean), Cond.fieldLink RX1 18 "PastAndClear$Fleet" "approach" "LPastAndClear$Approach;", Cond.methodLink RX1 87 yX1_measure, Cond.instanceMethod yX1_measure, Cond.selects RX1 yX1_measure yX1_measure, Cond.code yX1_measure cX1_measure 19 none, Cond.fieldLink RX1 95 "PastAndClear$Approach" "timeAbove" "J"]
def wsX4_perform_r4 : List Cond := [Cond.fieldLink RX1 99 "PastAndClear$Approach" "timeBelow" "J", Cond.fieldLink RX1 102 "PastAndClear$Approach" "nearAbove" "J", Cond.fieldLink RX1 105 "PastAndClear$Approach" "nearBelow" "J", Cond.methodLink RX1 91 yX0_isRisk, Cond.instanceMethod yX0_isRisk, Cond.selects RX0 yX0_isRisk yX0_isRisk, Cond.initialized RX0, Cond.code yX0_isRisk cX0_isRisk 5 (some .boolean), Cond.fieldLink RX0 19 "PastAndClear$Approach" "nearAbove" "J", Cond.fieldLink RX0 13 "PastAndClear$Approach" "nearBelow" "J", Cond.fieldLink RX0 16 "PastAndClear$Approach" "timeAbove" "J", Cond.fieldLink RX0 7 "PastAndClear$Approach" "timeBelow" "J", Cond.methodLink RX1 116 yX1_sectorOf, Cond.instanceMethod yX1_sectorOf, Cond.selects RX1 yX1_sectorOf yX1_sectorOf, Cond.code yX1_sectorOf cX1_sectorOf 9 (some .int), Cond.methodLink RX1 108 Lib.Math.abs.name, Cond.static Lib.Math.abs.name, Cond.initialized "java/lang/Math", Cond.code Lib.Math.abs.name Lib.Math.abs.code 1 (some .int), Cond.methodLink RX1 79 yX1_approachOf, Cond.instanceMethod yX1_approachOf, Cond.selects RX1 yX1_approachOf yX1_approachOf, Cond.code yX1_approachOf cX1_approachOf 3 (some (.object "PastAndClear$Approach"))]
def wsX4_perform_r5 : List Cond := [Cond.methodLink RX1 83 yX0_isPastAndClear, Cond.instanceMethod yX0_isPastAndClear, Cond.selects RX0 yX0_isPastAndClear yX0_isPastAndClear, Cond.code yX0_isPastAndClear cX0_isPastAndClear 3 (some .boolean), Cond.methodLink RX1 71 yX1_givenWay, Cond.instanceMethod yX1_givenWay, Cond.selects RX1 yX1_givenWay yX1_givenWay, Cond.code yX1_givenWay cX1_givenWay 3 (some .int), Cond.methodLink RX4 70 yX1_adviceFor, Cond.instanceMethod yX1_adviceFor, Cond.selects RX1 yX1_adviceFor yX1_adviceFor, Cond.code yX1_adviceFor cX1_adviceFor 2 (some .int), Cond.methodLink RX1 131 yX1_mustGiveWay, Cond.instanceMethod yX1_mustGiveWay, Cond.selects RX1 yX1_mustGiveWay yX1_mustGiveWay, Cond.code yX1_mustGiveWay cX1_mustGiveWay 3 (some .boolean), Cond.methodLink RX1 134 yX1_turnFor, Cond.instanceMethod yX1_turnFor, Cond.selects RX1 yX1_turnFor yX1_turnFor, Cond.code yX1_turnFor cX1_turnFor 6 (some .int), Cond.methodLink RX1 137 yX1_isClear, Cond.instanceMethod yX1_isClear, Cond.selects RX1 yX1_isClear yX1_isClear, Cond.code yX1_isClear cX1_isClear 5 (some .boolean)]
def wsX4_perform_r6 : List Cond := [Cond.methodLink RX1 127 yX1_wouldRisk, Cond.instanceMethod yX1_wouldRisk, Cond.selects RX1 yX1_wouldRisk yX1_wouldRisk, Cond.code yX1_wouldRisk cX1_wouldRisk 5 (some .boolean), Cond.methodLink RX4 73 yX1_follow, Cond.instanceMethod yX1_follow, Cond.selects RX1 yX1_follow yX1_follow, Cond.code yX1_follow cX1_follow 2 (some .int), Cond.methodLink RX4 56 yX1_setRule, Cond.instanceMethod yX1_setRule, Cond.selects RX1 yX1_setRule yX1_setRule, Cond.code yX1_setRule cX1_setRule 4 (some .int)]
def wsX4_perform : List Cond := .code yX4_perform cX4_perform 2 (some .int) :: ((wsX4_perform_r1 ++ (wsX4_perform_r2 ++ (wsX4_perform_r3 ++ (wsX4_perform_r4 ++ (wsX4_perform_r5 ++ wsX4_perform_r6))))) ++ wsX40 ++ wsX30 ++ wsX10 ++ wsX00)
def wsX4_does_r1 : List Cond := [Cond.fieldLink RX4 26 "PastAndClear" "script" "LPastAndClear$Script;", Cond.fieldLink RX4 19 "PastAndClear" "history" "LPastAndClear$History;", Cond.fieldLink RX4 10 "PastAndClear" "fleet" "LPastAndClear$Fleet;", Cond.fieldLink RX4 30 "PastAndClear$Fleet" "cells" "[I", Cond.methodLink RX4 137 yX3_faultPlace, Cond.instanceMethod yX3_faultPlace, Cond.selects RX3 yX3_faultPlace yX3_faultPlace, Cond.initialized RX3, Cond.code yX3_faultPlace cX3_faultPlace 2 (some .int), Cond.fieldLink RX3 19 "PastAndClear$Script" "length" "I", Cond.fieldLink RX3 33 "PastAndClear$Script" "at" "I", Cond.methodLink RX3 23 yX3_rewind, Cond.instanceMethod yX3_rewind, Cond.selects RX3 yX3_rewind yX3_rewind, Cond.code yX3_rewind cX3_rewind 1 none, Cond.methodLink RX3 36 yX3_skipBlanks, Cond.instanceMethod yX3_skipBlanks, Cond.selects RX3 yX3_skipBlanks yX3_skipBlanks, Cond.code yX3_skipBlanks cX3_skipBlanks 1 none, Cond.methodLink RX3 39 yX3_next, Cond.instanceMethod yX3_next, Cond.selects RX3 yX3_next yX3_next, Cond.code yX3_next cX3_next 1 (some .int), Cond.fieldLink RX3 11 "PastAndClear$Script" "bytes" "[B"]
def wsX4_does_r2 : List Cond := [Cond.methodLink RX3 26 yX3_hasMore, Cond.instanceMethod yX3_hasMore, Cond.selects RX3 yX3_hasMore yX3_hasMore, Cond.code yX3_hasMore cX3_hasMore 1 (some .boolean), Cond.methodLink RX3 30 yX3_readOrder, Cond.instanceMethod yX3_readOrder, Cond.selects RX3 yX3_readOrder yX3_readOrder, Cond.code yX3_readOrder cX3_readOrder 4 (some .boolean), Cond.fieldLink RX3 43 "PastAndClear$Script" "kind" "I", Cond.methodLink RX3 46 yX3_numbersOf, Cond.static yX3_numbersOf, Cond.code yX3_numbersOf cX3_numbersOf 1 (some .int), Cond.methodLink RX3 50 yX3_readNumber, Cond.instanceMethod yX3_readNumber, Cond.selects RX3 yX3_readNumber yX3_readNumber, Cond.code yX3_readNumber cX3_readNumber 6 (some .boolean), Cond.fieldLink RX3 15 "PastAndClear$Script" "numbers" "[I", Cond.methodLink RX3 54 yX3_isFigure, Cond.static yX3_isFigure, Cond.code yX3_isFigure cX3_isFigure 1 (some .boolean), Cond.methodLink RX4 34 yX2_mark, Cond.instanceMethod yX2_mark, Cond.selects RX2 yX2_mark yX2_mark, Cond.initialized RX2]
def wsX4_does_r3 : List Cond := [Cond.code yX2_mark cX2_mark 2 none, Cond.fieldLink RX2 11 "PastAndClear$History" "rows" "[I", Cond.fieldLink RX2 15 "PastAndClear$History" "kept" "I", Cond.methodLink RX2 19 arraycopyName, Cond.native arraycopyName, Cond.static arraycopyName, Cond.initialized "java/lang/System", Cond.methodLink RX4 140 yX3_rewind, Cond.methodLink RX4 143 yX3_hasMore, Cond.methodLink RX4 147 yX3_readOrder, Cond.methodLink RX4 150 yX4_perform, Cond.instanceMethod yX4_perform, Cond.selects RX4 yX4_perform yX4_perform, Cond.initialized RX4, Cond.code yX4_perform cX4_perform 2 (some .int), Cond.fieldLink RX4 186 "PastAndClear$Script" "numbers" "[I", Cond.fieldLink RX4 189 "PastAndClear$Script" "kind" "I", Cond.methodLink RX4 38 yX1_join, Cond.instanceMethod yX1_join, Cond.selects RX1 yX1_join yX1_join, Cond.initialized RX1, Cond.code yX1_join cX1_join 5 (some .int), Cond.fieldLink RX1 11 "PastAndClear$Fleet" "cells" "[I", Cond.methodLink RX1 42 yX1_isPlace]
def wsX4_does_r4 : List Cond := [Cond.static yX1_isPlace, Cond.code yX1_isPlace cX1_isPlace 1 (some .boolean), Cond.static yX4_isCourse, Cond.code yX4_isCourse cX4_isCourse 2 (some .boolean), Cond.methodLink RX1 49 yX1_put, Cond.instanceMethod yX1_put, Cond.selects RX1 yX1_put yX1_put, Cond.code yX1_put cX1_put 7 none, Cond.methodLink RX4 46 yX1_placeOwn, Cond.instanceMethod yX1_placeOwn, Cond.selects RX1 yX1_placeOwn yX1_placeOwn, Cond.code yX1_placeOwn cX1_placeOwn 6 (some .int), Cond.methodLink RX4 52 yX1_steer, Cond.instanceMethod yX1_steer, Cond.selects RX1 yX1_steer yX1_steer, Cond.code yX1_steer cX1_steer 5 (some .int), Cond.methodLink RX1 25 yX1_isShip, Cond.instanceMethod yX1_isShip, Cond.selects RX1 yX1_isShip yX1_isShip, Cond.code yX1_isShip cX1_isShip 2 (some .boolean), Cond.methodLink RX4 60 yX1_goOn, Cond.instanceMethod yX1_goOn, Cond.selects RX1 yX1_goOn yX1_goOn, Cond.code yX1_goOn cX1_goOn 3 (some .int)]
def wsX4_does_r5 : List Cond := [Cond.methodLink RX1 62 yX1_staysInside, Cond.instanceMethod yX1_staysInside, Cond.selects RX1 yX1_staysInside yX1_staysInside, Cond.code yX1_staysInside cX1_staysInside 3 (some .boolean), Cond.methodLink RX1 29 yX1_eastward, Cond.instanceMethod yX1_eastward, Cond.selects RX1 yX1_eastward yX1_eastward, Cond.code yX1_eastward cX1_eastward 2 (some .int), Cond.fieldLink RX1 36 "PastAndClear$Fleet" "EAST" "[I", Cond.methodLink RX1 33 yX1_northward, Cond.instanceMethod yX1_northward, Cond.selects RX1 yX1_northward yX1_northward, Cond.code yX1_northward cX1_northward 2 (some .int), Cond.fieldLink RX1 39 "PastAndClear$Fleet" "NORTH" "[I", Cond.methodLink RX1 65 yX1_moveAll, Cond.instanceMethod yX1_moveAll, Cond.selects RX1 yX1_moveAll yX1_moveAll, Cond.code yX1_moveAll cX1_moveAll 2 none, Cond.methodLink RX1 68 yX1_look, Cond.instanceMethod yX1_look, Cond.selects RX1 yX1_look yX1_look, Cond.code yX1_look cX1_look 2 none, Cond.methodLink RX1 75 yX1_tableOf, Cond.instanceMethod yX1_tableOf]
def wsX4_does_r6 : List Cond := [Cond.selects RX1 yX1_tableOf yX1_tableOf, Cond.code yX1_tableOf cX1_tableOf 5 (some .int), Cond.methodLink RX1 113 yX1_haveRisk, Cond.instanceMethod yX1_haveRisk, Cond.selects RX1 yX1_haveRisk yX1_haveRisk, Cond.code yX1_haveRisk cX1_haveRisk 3 (some .boolean), Cond.fieldLink RX1 18 "PastAndClear$Fleet" "approach" "LPastAndClear$Approach;", Cond.methodLink RX1 87 yX1_measure, Cond.instanceMethod yX1_measure, Cond.selects RX1 yX1_measure yX1_measure, Cond.code yX1_measure cX1_measure 19 none, Cond.fieldLink RX1 95 "PastAndClear$Approach" "timeAbove" "J", Cond.fieldLink RX1 99 "PastAndClear$Approach" "timeBelow" "J", Cond.fieldLink RX1 102 "PastAndClear$Approach" "nearAbove" "J", Cond.fieldLink RX1 105 "PastAndClear$Approach" "nearBelow" "J", Cond.methodLink RX1 91 yX0_isRisk, Cond.instanceMethod yX0_isRisk, Cond.selects RX0 yX0_isRisk yX0_isRisk, Cond.initialized RX0, Cond.code yX0_isRisk cX0_isRisk 5 (some .boolean), Cond.fieldLink RX0 19 "PastAndClear$Approach" "nearAbove" "J", Cond.fieldLink RX0 13 "PastAndClear$Approach" "nearBelow" "J", Cond.fieldLink RX0 16 "PastAndClear$Approach" "timeAbove" "J", Cond.fieldLink RX0 7 "PastAndClear$Approach" "timeBelow" "J"]
def wsX4_does_r7 : List Cond := [Cond.methodLink RX1 116 yX1_sectorOf, Cond.instanceMethod yX1_sectorOf, Cond.selects RX1 yX1_sectorOf yX1_sectorOf, Cond.code yX1_sectorOf cX1_sectorOf 9 (some .int), Cond.methodLink RX1 108 Lib.Math.abs.name, Cond.static Lib.Math.abs.name, Cond.initialized "java/lang/Math", Cond.code Lib.Math.abs.name Lib.Math.abs.code 1 (some .int), Cond.methodLink RX1 79 yX1_approachOf, Cond.instanceMethod yX1_approachOf, Cond.selects RX1 yX1_approachOf yX1_approachOf, Cond.code yX1_approachOf cX1_approachOf 3 (some (.object "PastAndClear$Approach")), Cond.methodLink RX1 83 yX0_isPastAndClear, Cond.instanceMethod yX0_isPastAndClear, Cond.selects RX0 yX0_isPastAndClear yX0_isPastAndClear, Cond.code yX0_isPastAndClear cX0_isPastAndClear 3 (some .boolean), Cond.methodLink RX1 71 yX1_givenWay, Cond.instanceMethod yX1_givenWay, Cond.selects RX1 yX1_givenWay yX1_givenWay, Cond.code yX1_givenWay cX1_givenWay 3 (some .int), Cond.methodLink RX4 70 yX1_adviceFor, Cond.instanceMethod yX1_adviceFor, Cond.selects RX1 yX1_adviceFor yX1_adviceFor, Cond.code yX1_adviceFor cX1_adviceFor 2 (some .int)]
def wsX4_does_r8 : List Cond := [Cond.methodLink RX1 131 yX1_mustGiveWay, Cond.instanceMethod yX1_mustGiveWay, Cond.selects RX1 yX1_mustGiveWay yX1_mustGiveWay, Cond.code yX1_mustGiveWay cX1_mustGiveWay 3 (some .boolean), Cond.methodLink RX1 134 yX1_turnFor, Cond.instanceMethod yX1_turnFor, Cond.selects RX1 yX1_turnFor yX1_turnFor, Cond.code yX1_turnFor cX1_turnFor 6 (some .int), Cond.methodLink RX1 137 yX1_isClear, Cond.instanceMethod yX1_isClear, Cond.selects RX1 yX1_isClear yX1_isClear, Cond.code yX1_isClear cX1_isClear 5 (some .boolean), Cond.methodLink RX1 127 yX1_wouldRisk, Cond.instanceMethod yX1_wouldRisk, Cond.selects RX1 yX1_wouldRisk yX1_wouldRisk, Cond.code yX1_wouldRisk cX1_wouldRisk 5 (some .boolean), Cond.methodLink RX4 73 yX1_follow, Cond.instanceMethod yX1_follow, Cond.selects RX1 yX1_follow yX1_follow, Cond.code yX1_follow cX1_follow 2 (some .int), Cond.methodLink RX4 56 yX1_setRule, Cond.instanceMethod yX1_setRule, Cond.selects RX1 yX1_setRule yX1_setRule, Cond.code yX1_setRule cX1_setRule 4 (some .int)]
def wsX4_does_r9 : List Cond := [Cond.methodLink RX4 153 yX4_isRefusal, Cond.static yX4_isRefusal, Cond.code yX4_isRefusal cX4_isRefusal 1 (some .boolean), Cond.methodLink RX4 156 yX2_restore, Cond.instanceMethod yX2_restore, Cond.selects RX2 yX2_restore yX2_restore, Cond.code yX2_restore cX2_restore 2 none, Cond.methodLink RX4 159 yX2_keep, Cond.instanceMethod yX2_keep, Cond.selects RX2 yX2_keep yX2_keep, Cond.code yX2_keep cX2_keep 1 none]
def wsX4_does : List Cond := .code yX4_does cX4_does 3 (some .int) :: ((wsX4_does_r1 ++ (wsX4_does_r2 ++ (wsX4_does_r3 ++ (wsX4_does_r4 ++ (wsX4_does_r5 ++ (wsX4_does_r6 ++ (wsX4_does_r7 ++ (wsX4_does_r8 ++ wsX4_does_r9)))))))) ++ wsX40 ++ wsX10 ++ wsX30 ++ wsX20 ++ wsX00)
def wsX4_back_r1 : List Cond := [Cond.fieldLink RX4 19 "PastAndClear" "history" "LPastAndClear$History;", Cond.fieldLink RX4 162 "PastAndClear$History" "kept" "I", Cond.fieldLink RX4 10 "PastAndClear" "fleet" "LPastAndClear$Fleet;", Cond.fieldLink RX4 30 "PastAndClear$Fleet" "cells" "[I", Cond.methodLink RX4 80 yX4_answered, Cond.instanceMethod yX4_answered, Cond.selects RX4 yX4_answered yX4_answered, Cond.initialized RX4, Cond.code yX4_answered cX4_answered 2 (some .int), Cond.fieldLink RX4 192 "PastAndClear" "bads" "I", Cond.fieldLink RX4 195 "PastAndClear" "noes" "I", Cond.fieldLink RX4 198 "PastAndClear" "fulls" "I", Cond.methodLink RX4 166 yX2_takeBack, Cond.instanceMethod yX2_takeBack, Cond.selects RX2 yX2_takeBack yX2_takeBack, Cond.initialized RX2, Cond.code yX2_takeBack cX2_takeBack 2 none, Cond.fieldLink RX2 15 "PastAndClear$History" "kept" "I", Cond.methodLink RX2 25 yX2_restore, Cond.instanceMethod yX2_restore, Cond.selects RX2 yX2_restore yX2_restore, Cond.code yX2_restore cX2_restore 2 none, Cond.fieldLink RX2 11 "PastAndClear$History" "rows" "[I", Cond.methodLink RX2 19 arraycopyName]
def wsX4_back_r2 : List Cond := [Cond.native arraycopyName, Cond.static arraycopyName, Cond.initialized "java/lang/System"]
def wsX4_back : List Cond := .code yX4_back cX4_back 1 (some .int) :: ((wsX4_back_r1 ++ wsX4_back_r2) ++ wsX40 ++ wsX20 ++ wsX10)
def wsX4_tally : List Cond := .code yX4_tally cX4_tally 2 (some .int) :: ([.fieldLink RX4 192 "PastAndClear" "bads" "I", .fieldLink RX4 195 "PastAndClear" "noes" "I", .fieldLink RX4 198 "PastAndClear" "fulls" "I", .fieldLink RX4 26 "PastAndClear" "script" "LPastAndClear$Script;", .fieldLink RX4 201 "PastAndClear$Script" "length" "I", .fieldLink RX4 19 "PastAndClear" "history" "LPastAndClear$History;", .fieldLink RX4 162 "PastAndClear$History" "kept" "I"] ++ wsX40 ++ wsX30 ++ wsX20)
def wsX4_told : List Cond := .code yX4_told cX4_told 2 (some .int) :: ([.methodLink RX4 80 yX4_answered, .instanceMethod yX4_answered, .selects RX4 yX4_answered yX4_answered, .initialized RX4, .code yX4_answered cX4_answered 2 (some .int), .fieldLink RX4 192 "PastAndClear" "bads" "I", .fieldLink RX4 195 "PastAndClear" "noes" "I", .fieldLink RX4 198 "PastAndClear" "fulls" "I", .methodLink RX4 169 yX4_tally, .instanceMethod yX4_tally, .selects RX4 yX4_tally yX4_tally, .code yX4_tally cX4_tally 2 (some .int), .fieldLink RX4 26 "PastAndClear" "script" "LPastAndClear$Script;", .fieldLink RX4 201 "PastAndClear$Script" "length" "I", .fieldLink RX4 19 "PastAndClear" "history" "LPastAndClear$History;", .fieldLink RX4 162 "PastAndClear$History" "kept" "I"] ++ wsX40 ++ wsX30 ++ wsX20)
def wsX4_digest_r1 : List Cond := [Cond.constantLong RX4 172 (1934), Cond.constantLong RX4 174 (31), Cond.fieldLink RX4 10 "PastAndClear" "fleet" "LPastAndClear$Fleet;", Cond.methodLink RX4 169 yX4_tally, Cond.instanceMethod yX4_tally, Cond.selects RX4 yX4_tally yX4_tally, Cond.initialized RX4, Cond.code yX4_tally cX4_tally 2 (some .int), Cond.fieldLink RX4 192 "PastAndClear" "bads" "I", Cond.fieldLink RX4 195 "PastAndClear" "noes" "I", Cond.fieldLink RX4 198 "PastAndClear" "fulls" "I", Cond.fieldLink RX4 26 "PastAndClear" "script" "LPastAndClear$Script;", Cond.fieldLink RX4 201 "PastAndClear$Script" "length" "I", Cond.fieldLink RX4 19 "PastAndClear" "history" "LPastAndClear$History;", Cond.fieldLink RX4 162 "PastAndClear$History" "kept" "I", Cond.methodLink RX4 128 yX1_countOf, Cond.instanceMethod yX1_countOf, Cond.selects RX1 yX1_countOf yX1_countOf, Cond.initialized RX1, Cond.code yX1_countOf cX1_countOf 2 (some .int), Cond.fieldLink RX1 11 "PastAndClear$Fleet" "cells" "[I", Cond.methodLink RX4 176 yX1_others, Cond.instanceMethod yX1_others, Cond.selects RX1 yX1_others yX1_others]
def wsX4_digest_r2 : List Cond := [Cond.code yX1_others cX1_others 1 (some .int), Cond.methodLink RX4 179 yX1_foldShip, Cond.instanceMethod yX1_foldShip, Cond.selects RX1 yX1_foldShip yX1_foldShip, Cond.code yX1_foldShip cX1_foldShip 5 (some .long), Cond.constantLong RX1 141 (31), Cond.methodLink RX1 143 yX1_partOf, Cond.instanceMethod yX1_partOf, Cond.selects RX1 yX1_partOf yX1_partOf, Cond.code yX1_partOf cX1_partOf 3 (some .int), Cond.methodLink RX1 29 yX1_eastward, Cond.instanceMethod yX1_eastward, Cond.selects RX1 yX1_eastward yX1_eastward, Cond.code yX1_eastward cX1_eastward 2 (some .int), Cond.fieldLink RX1 36 "PastAndClear$Fleet" "EAST" "[I", Cond.methodLink RX1 33 yX1_northward, Cond.instanceMethod yX1_northward, Cond.selects RX1 yX1_northward yX1_northward, Cond.code yX1_northward cX1_northward 2 (some .int), Cond.fieldLink RX1 39 "PastAndClear$Fleet" "NORTH" "[I", Cond.methodLink RX1 146 yX1_adviceFor, Cond.instanceMethod yX1_adviceFor, Cond.selects RX1 yX1_adviceFor yX1_adviceFor, Cond.code yX1_adviceFor cX1_adviceFor 2 (some .int)]
def wsX4_digest_r3 : List Cond := [Cond.methodLink RX1 131 yX1_mustGiveWay, Cond.instanceMethod yX1_mustGiveWay, Cond.selects RX1 yX1_mustGiveWay yX1_mustGiveWay, Cond.code yX1_mustGiveWay cX1_mustGiveWay 3 (some .boolean), Cond.methodLink RX1 71 yX1_givenWay, Cond.instanceMethod yX1_givenWay, Cond.selects RX1 yX1_givenWay yX1_givenWay, Cond.code yX1_givenWay cX1_givenWay 3 (some .int), Cond.methodLink RX1 75 yX1_tableOf, Cond.instanceMethod yX1_tableOf, Cond.selects RX1 yX1_tableOf yX1_tableOf, Cond.code yX1_tableOf cX1_tableOf 5 (some .int), Cond.methodLink RX1 113 yX1_haveRisk, Cond.instanceMethod yX1_haveRisk, Cond.selects RX1 yX1_haveRisk yX1_haveRisk, Cond.code yX1_haveRisk cX1_haveRisk 3 (some .boolean), Cond.fieldLink RX1 18 "PastAndClear$Fleet" "approach" "LPastAndClear$Approach;", Cond.methodLink RX1 87 yX1_measure, Cond.instanceMethod yX1_measure, Cond.selects RX1 yX1_measure yX1_measure, Cond.code yX1_measure cX1_measure 19 none, Cond.fieldLink RX1 95 "PastAndClear$Approach" "timeAbove" "J", Cond.fieldLink RX1 99 "PastAndClear$Approach" "timeBelow" "J", Cond.fieldLink RX1 102 "PastAndClear$Approach" "nearAbove" "J"]
def wsX4_digest_r4 : List Cond := [Cond.fieldLink RX1 105 "PastAndClear$Approach" "nearBelow" "J", Cond.methodLink RX1 91 yX0_isRisk, Cond.instanceMethod yX0_isRisk, Cond.selects RX0 yX0_isRisk yX0_isRisk, Cond.initialized RX0, Cond.code yX0_isRisk cX0_isRisk 5 (some .boolean), Cond.fieldLink RX0 19 "PastAndClear$Approach" "nearAbove" "J", Cond.fieldLink RX0 13 "PastAndClear$Approach" "nearBelow" "J", Cond.fieldLink RX0 16 "PastAndClear$Approach" "timeAbove" "J", Cond.fieldLink RX0 7 "PastAndClear$Approach" "timeBelow" "J", Cond.methodLink RX1 116 yX1_sectorOf, Cond.instanceMethod yX1_sectorOf, Cond.selects RX1 yX1_sectorOf yX1_sectorOf, Cond.code yX1_sectorOf cX1_sectorOf 9 (some .int), Cond.methodLink RX1 108 Lib.Math.abs.name, Cond.static Lib.Math.abs.name, Cond.initialized "java/lang/Math", Cond.code Lib.Math.abs.name Lib.Math.abs.code 1 (some .int), Cond.methodLink RX1 134 yX1_turnFor, Cond.instanceMethod yX1_turnFor, Cond.selects RX1 yX1_turnFor yX1_turnFor, Cond.code yX1_turnFor cX1_turnFor 6 (some .int), Cond.methodLink RX1 137 yX1_isClear, Cond.instanceMethod yX1_isClear]
def wsX4_digest_r5 : List Cond := [Cond.selects RX1 yX1_isClear yX1_isClear, Cond.code yX1_isClear cX1_isClear 5 (some .boolean), Cond.methodLink RX1 127 yX1_wouldRisk, Cond.instanceMethod yX1_wouldRisk, Cond.selects RX1 yX1_wouldRisk yX1_wouldRisk, Cond.code yX1_wouldRisk cX1_wouldRisk 5 (some .boolean), Cond.methodLink RX4 183 yX1_foldOther, Cond.instanceMethod yX1_foldOther, Cond.selects RX1 yX1_foldOther yX1_foldOther, Cond.code yX1_foldOther cX1_foldOther 6 (some .long), Cond.methodLink RX1 149 yX1_dutyTo, Cond.instanceMethod yX1_dutyTo, Cond.selects RX1 yX1_dutyTo yX1_dutyTo, Cond.code yX1_dutyTo cX1_dutyTo 2 (some .int), Cond.methodLink RX1 79 yX1_approachOf, Cond.instanceMethod yX1_approachOf, Cond.selects RX1 yX1_approachOf yX1_approachOf, Cond.code yX1_approachOf cX1_approachOf 3 (some (.object "PastAndClear$Approach")), Cond.methodLink RX1 152 yX0_part, Cond.instanceMethod yX0_part, Cond.selects RX0 yX0_part yX0_part, Cond.code yX0_part cX0_part 2 (some .long), Cond.methodLink RX0 22 yX0_lowest, Cond.static yX0_lowest]
def wsX4_digest_r6 : List Cond := [Cond.code yX0_lowest cX0_lowest 7 (some .long), Cond.methodLink RX0 26 yX0_sharedDivisor, Cond.static yX0_sharedDivisor, Cond.code yX0_sharedDivisor cX0_sharedDivisor 7 (some .long), Cond.methodLink RX1 156 yX1_blockedBy, Cond.instanceMethod yX1_blockedBy, Cond.selects RX1 yX1_blockedBy yX1_blockedBy, Cond.code yX1_blockedBy cX1_blockedBy 4 (some .int), Cond.methodLink RX4 115 yX1_worstOther, Cond.instanceMethod yX1_worstOther, Cond.selects RX1 yX1_worstOther yX1_worstOther, Cond.code yX1_worstOther cX1_worstOther 3 (some .int), Cond.fieldLink RX1 22 "PastAndClear$Fleet" "worstYet" "LPastAndClear$Approach;", Cond.methodLink RX1 119 yX0_isWorse, Cond.instanceMethod yX0_isWorse, Cond.selects RX0 yX0_isWorse yX0_isWorse, Cond.code yX0_isWorse cX0_isWorse 4 (some .boolean), Cond.methodLink RX1 123 yX0_take, Cond.instanceMethod yX0_take, Cond.selects RX0 yX0_take yX0_take, Cond.code yX0_take cX0_take 2 none]
def wsX4_digest : List Cond := .code yX4_digest cX4_digest 4 (some .long) :: ((wsX4_digest_r1 ++ (wsX4_digest_r2 ++ (wsX4_digest_r3 ++ (wsX4_digest_r4 ++ (wsX4_digest_r5 ++ wsX4_digest_r6))))) ++ wsX40 ++ wsX30 ++ wsX20 ++ wsX10 ++ wsX00)
def wsX5_init : List Cond := .code yX5_init cX5_init 1 none :: ([.methodLink RX5 1 objectInit, .instanceMethod objectInit, .code objectInit ⟨#[0xb1]⟩ 1 none, .arrayClass .int, .fieldLink RX5 7 "PastAndClearModel" "now" "[I", .fieldLink RX5 13 "PastAndClearModel" "aside" "[I", .fieldLink RX5 16 "PastAndClearModel" "past" "[I", .fieldLink RX5 19 "PastAndClearModel" "refusals" "[I", .fieldLink RX5 22 "PastAndClearModel" "text" "[I", .fieldLink RX5 25 "PastAndClearModel" "letters" "[I", .fieldLink RX5 28 "PastAndClearModel" "numbers" "[I"] ++ wsX50)
def wsX5_in : List Cond := .code yX5_in cX5_in 3 (some .boolean) :: ([])
def wsX5_refuses : List Cond := .code yX5_refuses cX5_refuses 2 (some .int) :: ([.fieldLink RX5 19 "PastAndClearModel" "refusals" "[I"] ++ wsX50)
def wsX5_laysAside : List Cond := .code yX5_laysAside cX5_laysAside 2 none :: ([.fieldLink RX5 13 "PastAndClearModel" "aside" "[I", .fieldLink RX5 7 "PastAndClearModel" "now" "[I"] ++ wsX50)
def wsX5_remembers : List Cond := .code yX5_remembers cX5_remembers 2 none :: ([.fieldLink RX5 31 "PastAndClearModel" "states" "I", .fieldLink RX5 16 "PastAndClearModel" "past" "[I", .fieldLink RX5 13 "PastAndClearModel" "aside" "[I"] ++ wsX50)
def wsX5_back : List Cond := .code yX5_back cX5_back 2 (some .int) :: ([.fieldLink RX5 31 "PastAndClearModel" "states" "I", .fieldLink RX5 7 "PastAndClearModel" "now" "[I", .fieldLink RX5 16 "PastAndClearModel" "past" "[I", .methodLink RX5 35 yX5_refuses, .instanceMethod yX5_refuses, .selects RX5 yX5_refuses yX5_refuses, .initialized RX5, .code yX5_refuses cX5_refuses 2 (some .int), .fieldLink RX5 19 "PastAndClearModel" "refusals" "[I"] ++ wsX50)
def wsX5_finished : List Cond := .code yX5_finished cX5_finished 2 (some .int) :: ([.methodLink RX5 35 yX5_refuses, .instanceMethod yX5_refuses, .selects RX5 yX5_refuses yX5_refuses, .initialized RX5, .code yX5_refuses cX5_refuses 2 (some .int), .fieldLink RX5 19 "PastAndClearModel" "refusals" "[I", .methodLink RX5 39 yX5_remembers, .instanceMethod yX5_remembers, .selects RX5 yX5_remembers yX5_remembers, .code yX5_remembers cX5_remembers 2 none, .fieldLink RX5 31 "PastAndClearModel" "states" "I", .fieldLink RX5 16 "PastAndClearModel" "past" "[I", .fieldLink RX5 13 "PastAndClearModel" "aside" "[I"] ++ wsX50)
def wsX5_shipOf : List Cond := .code yX5_shipOf cX5_shipOf 3 (some .int) :: ([.fieldLink RX5 7 "PastAndClearModel" "now" "[I"] ++ wsX50)
def wsX5_tells : List Cond := .code yX5_tells cX5_tells 4 none :: ([.fieldLink RX5 7 "PastAndClearModel" "now" "[I"] ++ wsX50)
def wsX5_isShip : List Cond := .code yX5_isShip cX5_isShip 2 (some .boolean) :: ([.fieldLink RX5 7 "PastAndClearModel" "now" "[I", .methodLink RX5 42 yX5_in, .static yX5_in, .initialized RX5, .code yX5_in cX5_in 3 (some .boolean)] ++ wsX50)
def wsX5_isOther : List Cond := .code yX5_isOther cX5_isOther 2 (some .boolean) :: ([.methodLink RX5 46 yX5_isShip, .instanceMethod yX5_isShip, .selects RX5 yX5_isShip yX5_isShip, .initialized RX5, .code yX5_isShip cX5_isShip 2 (some .boolean), .fieldLink RX5 7 "PastAndClearModel" "now" "[I", .methodLink RX5 42 yX5_in, .static yX5_in, .code yX5_in cX5_in 3 (some .boolean)] ++ wsX50)
def wsX5_isCourse : List Cond := .code yX5_isCourse cX5_isCourse 2 (some .boolean) :: ([.methodLink RX5 42 yX5_in, .static yX5_in, .initialized RX5, .code yX5_in cX5_in 3 (some .boolean)])
def wsX5_isPlace : List Cond := .code yX5_isPlace cX5_isPlace 2 (some .boolean) :: ([.methodLink RX5 42 yX5_in, .static yX5_in, .initialized RX5, .code yX5_in cX5_in 3 (some .boolean)])
def wsX5_northOf : List Cond := .code yX5_northOf cX5_northOf 4 (some .int) :: ([])
def wsX5_eastOf : List Cond := .code yX5_eastOf cX5_eastOf 1 (some .int) :: ([.methodLink RX5 50 yX5_northOf, .static yX5_northOf, .initialized RX5, .code yX5_northOf cX5_northOf 4 (some .int)])
def wsX5_lays : List Cond := .code yX5_lays cX5_lays 5 none :: ([.fieldLink RX5 57 "PastAndClearModel" "placeX" "J", .fieldLink RX5 61 "PastAndClearModel" "placeY" "J", .fieldLink RX5 67 "PastAndClearModel" "speedX" "J", .fieldLink RX5 70 "PastAndClearModel" "speedY" "J", .methodLink RX5 53 yX5_shipOf, .instanceMethod yX5_shipOf, .selects RX5 yX5_shipOf yX5_shipOf, .initialized RX5, .code yX5_shipOf cX5_shipOf 3 (some .int), .fieldLink RX5 7 "PastAndClearModel" "now" "[I", .methodLink RX5 64 yX5_eastOf, .static yX5_eastOf, .code yX5_eastOf cX5_eastOf 1 (some .int), .methodLink RX5 50 yX5_northOf, .static yX5_northOf, .code yX5_northOf cX5_northOf 4 (some .int)] ++ wsX50)
def wsX5_laysAsTheyAre : List Cond := .code yX5_laysAsTheyAre cX5_laysAsTheyAre 3 none :: ([.methodLink RX5 53 yX5_shipOf, .instanceMethod yX5_shipOf, .selects RX5 yX5_shipOf yX5_shipOf, .initialized RX5, .code yX5_shipOf cX5_shipOf 3 (some .int), .fieldLink RX5 7 "PastAndClearModel" "now" "[I", .methodLink RX5 73 yX5_lays, .instanceMethod yX5_lays, .selects RX5 yX5_lays yX5_lays, .code yX5_lays cX5_lays 5 none, .fieldLink RX5 57 "PastAndClearModel" "placeX" "J", .fieldLink RX5 61 "PastAndClearModel" "placeY" "J", .fieldLink RX5 67 "PastAndClearModel" "speedX" "J", .fieldLink RX5 70 "PastAndClearModel" "speedY" "J", .methodLink RX5 64 yX5_eastOf, .static yX5_eastOf, .code yX5_eastOf cX5_eastOf 1 (some .int), .methodLink RX5 50 yX5_northOf, .static yX5_northOf, .code yX5_northOf cX5_northOf 4 (some .int)] ++ wsX50)
def wsX5_towards : List Cond := .code yX5_towards cX5_towards 1 (some .long) :: ([.fieldLink RX5 57 "PastAndClearModel" "placeX" "J", .fieldLink RX5 67 "PastAndClearModel" "speedX" "J", .fieldLink RX5 61 "PastAndClearModel" "placeY" "J", .fieldLink RX5 70 "PastAndClearModel" "speedY" "J"] ++ wsX50)
def wsX5_squareAway : List Cond := .code yX5_squareAway cX5_squareAway 1 (some .long) :: ([.fieldLink RX5 57 "PastAndClearModel" "placeX" "J", .fieldLink RX5 61 "PastAndClearModel" "placeY" "J"] ++ wsX50)
def wsX5_common : List Cond := .code yX5_common cX5_common 10 (some .long) :: ([])
def wsX5_findsClosest : List Cond := .code yX5_findsClosest cX5_findsClosest 7 none :: ([.fieldLink RX5 81 "PastAndClearModel" "timeAbove" "J", .fieldLink RX5 84 "PastAndClearModel" "timeBelow" "J", .fieldLink RX5 90 "PastAndClearModel" "farAbove" "J", .fieldLink RX5 93 "PastAndClearModel" "farBelow" "J", .fieldLink RX5 67 "PastAndClearModel" "speedX" "J", .fieldLink RX5 70 "PastAndClearModel" "speedY" "J", .fieldLink RX5 57 "PastAndClearModel" "placeX" "J", .fieldLink RX5 61 "PastAndClearModel" "placeY" "J", .methodLink RX5 77 yX5_towards, .instanceMethod yX5_towards, .selects RX5 yX5_towards yX5_towards, .initialized RX5, .code yX5_towards cX5_towards 1 (some .long), .methodLink RX5 87 yX5_squareAway, .instanceMethod yX5_squareAway, .selects RX5 yX5_squareAway yX5_squareAway, .code yX5_squareAway cX5_squareAway 1 (some .long), .methodLink RX5 96 yX5_common, .static yX5_common, .code yX5_common cX5_common 10 (some .long)] ++ wsX50)
def wsX5_isRisk_r1 : List Cond := [Cond.fieldLink RX5 7 "PastAndClearModel" "now" "[I", Cond.fieldLink RX5 90 "PastAndClearModel" "farAbove" "J", Cond.fieldLink RX5 93 "PastAndClearModel" "farBelow" "J", Cond.fieldLink RX5 81 "PastAndClearModel" "timeAbove" "J", Cond.fieldLink RX5 84 "PastAndClearModel" "timeBelow" "J", Cond.methodLink RX5 100 yX5_findsClosest, Cond.instanceMethod yX5_findsClosest, Cond.selects RX5 yX5_findsClosest yX5_findsClosest, Cond.initialized RX5, Cond.code yX5_findsClosest cX5_findsClosest 7 none, Cond.fieldLink RX5 67 "PastAndClearModel" "speedX" "J", Cond.fieldLink RX5 70 "PastAndClearModel" "speedY" "J", Cond.fieldLink RX5 57 "PastAndClearModel" "placeX" "J", Cond.fieldLink RX5 61 "PastAndClearModel" "placeY" "J", Cond.methodLink RX5 77 yX5_towards, Cond.instanceMethod yX5_towards, Cond.selects RX5 yX5_towards yX5_towards, Cond.code yX5_towards cX5_towards 1 (some .long), Cond.methodLink RX5 87 yX5_squareAway, Cond.instanceMethod yX5_squareAway, Cond.selects RX5 yX5_squareAway yX5_squareAway, Cond.code yX5_squareAway cX5_squareAway 1 (some .long), Cond.methodLink RX5 96 yX5_common, Cond.static yX5_common]
def wsX5_isRisk_r2 : List Cond := [Cond.code yX5_common cX5_common 10 (some .long)]
def wsX5_isRisk : List Cond := .code yX5_isRisk cX5_isRisk 3 (some .boolean) :: ((wsX5_isRisk_r1 ++ wsX5_isRisk_r2) ++ wsX50)
def wsX5_haveRisk_r1 : List Cond := [Cond.methodLink RX5 103 yX5_laysAsTheyAre, Cond.instanceMethod yX5_laysAsTheyAre, Cond.selects RX5 yX5_laysAsTheyAre yX5_laysAsTheyAre, Cond.initialized RX5, Cond.code yX5_laysAsTheyAre cX5_laysAsTheyAre 3 none, Cond.methodLink RX5 53 yX5_shipOf, Cond.instanceMethod yX5_shipOf, Cond.selects RX5 yX5_shipOf yX5_shipOf, Cond.code yX5_shipOf cX5_shipOf 3 (some .int), Cond.fieldLink RX5 7 "PastAndClearModel" "now" "[I", Cond.methodLink RX5 73 yX5_lays, Cond.instanceMethod yX5_lays, Cond.selects RX5 yX5_lays yX5_lays, Cond.code yX5_lays cX5_lays 5 none, Cond.fieldLink RX5 57 "PastAndClearModel" "placeX" "J", Cond.fieldLink RX5 61 "PastAndClearModel" "placeY" "J", Cond.fieldLink RX5 67 "PastAndClearModel" "speedX" "J", Cond.fieldLink RX5 70 "PastAndClearModel" "speedY" "J", Cond.methodLink RX5 64 yX5_eastOf, Cond.static yX5_eastOf, Cond.code yX5_eastOf cX5_eastOf 1 (some .int), Cond.methodLink RX5 50 yX5_northOf, Cond.static yX5_northOf, Cond.code yX5_northOf cX5_northOf 4 (some .int)]
def wsX5_haveRisk_r2 : List Cond := [Cond.methodLink RX5 107 yX5_isRisk, Cond.instanceMethod yX5_isRisk, Cond.selects RX5 yX5_isRisk yX5_isRisk, Cond.code yX5_isRisk cX5_isRisk 3 (some .boolean), Cond.fieldLink RX5 90 "PastAndClearModel" "farAbove" "J", Cond.fieldLink RX5 93 "PastAndClearModel" "farBelow" "J", Cond.fieldLink RX5 81 "PastAndClearModel" "timeAbove" "J", Cond.fieldLink RX5 84 "PastAndClearModel" "timeBelow" "J", Cond.methodLink RX5 100 yX5_findsClosest, Cond.instanceMethod yX5_findsClosest, Cond.selects RX5 yX5_findsClosest yX5_findsClosest, Cond.code yX5_findsClosest cX5_findsClosest 7 none, Cond.methodLink RX5 77 yX5_towards, Cond.instanceMethod yX5_towards, Cond.selects RX5 yX5_towards yX5_towards, Cond.code yX5_towards cX5_towards 1 (some .long), Cond.methodLink RX5 87 yX5_squareAway, Cond.instanceMethod yX5_squareAway, Cond.selects RX5 yX5_squareAway yX5_squareAway, Cond.code yX5_squareAway cX5_squareAway 1 (some .long), Cond.methodLink RX5 96 yX5_common, Cond.static yX5_common, Cond.code yX5_common cX5_common 10 (some .long)]
def wsX5_haveRisk : List Cond := .code yX5_haveRisk cX5_haveRisk 3 (some .boolean) :: ((wsX5_haveRisk_r1 ++ wsX5_haveRisk_r2) ++ wsX50)
def wsX5_sectorOf_r1 : List Cond := [Cond.fieldLink RX5 57 "PastAndClearModel" "placeX" "J", Cond.fieldLink RX5 61 "PastAndClearModel" "placeY" "J", Cond.constantLong RX5 111 (4), Cond.constantLong RX5 113 (-2), Cond.methodLink RX5 103 yX5_laysAsTheyAre, Cond.instanceMethod yX5_laysAsTheyAre, Cond.selects RX5 yX5_laysAsTheyAre yX5_laysAsTheyAre, Cond.initialized RX5, Cond.code yX5_laysAsTheyAre cX5_laysAsTheyAre 3 none, Cond.methodLink RX5 53 yX5_shipOf, Cond.instanceMethod yX5_shipOf, Cond.selects RX5 yX5_shipOf yX5_shipOf, Cond.code yX5_shipOf cX5_shipOf 3 (some .int), Cond.fieldLink RX5 7 "PastAndClearModel" "now" "[I", Cond.methodLink RX5 73 yX5_lays, Cond.instanceMethod yX5_lays, Cond.selects RX5 yX5_lays yX5_lays, Cond.code yX5_lays cX5_lays 5 none, Cond.fieldLink RX5 67 "PastAndClearModel" "speedX" "J", Cond.fieldLink RX5 70 "PastAndClearModel" "speedY" "J", Cond.methodLink RX5 64 yX5_eastOf, Cond.static yX5_eastOf, Cond.code yX5_eastOf cX5_eastOf 1 (some .int), Cond.methodLink RX5 50 yX5_northOf]
def wsX5_sectorOf_r2 : List Cond := [Cond.static yX5_northOf, Cond.code yX5_northOf cX5_northOf 4 (some .int), Cond.methodLink RX5 87 yX5_squareAway, Cond.instanceMethod yX5_squareAway, Cond.selects RX5 yX5_squareAway yX5_squareAway, Cond.code yX5_squareAway cX5_squareAway 1 (some .long)]
def wsX5_sectorOf : List Cond := .code yX5_sectorOf cX5_sectorOf 13 (some .int) :: ((wsX5_sectorOf_r1 ++ wsX5_sectorOf_r2) ++ wsX50)
def wsX5_tableOf_r1 : List Cond := [Cond.methodLink RX5 115 yX5_haveRisk, Cond.instanceMethod yX5_haveRisk, Cond.selects RX5 yX5_haveRisk yX5_haveRisk, Cond.initialized RX5, Cond.code yX5_haveRisk cX5_haveRisk 3 (some .boolean), Cond.methodLink RX5 103 yX5_laysAsTheyAre, Cond.instanceMethod yX5_laysAsTheyAre, Cond.selects RX5 yX5_laysAsTheyAre yX5_laysAsTheyAre, Cond.code yX5_laysAsTheyAre cX5_laysAsTheyAre 3 none, Cond.methodLink RX5 53 yX5_shipOf, Cond.instanceMethod yX5_shipOf, Cond.selects RX5 yX5_shipOf yX5_shipOf, Cond.code yX5_shipOf cX5_shipOf 3 (some .int), Cond.fieldLink RX5 7 "PastAndClearModel" "now" "[I", Cond.methodLink RX5 73 yX5_lays, Cond.instanceMethod yX5_lays, Cond.selects RX5 yX5_lays yX5_lays, Cond.code yX5_lays cX5_lays 5 none, Cond.fieldLink RX5 57 "PastAndClearModel" "placeX" "J", Cond.fieldLink RX5 61 "PastAndClearModel" "placeY" "J", Cond.fieldLink RX5 67 "PastAndClearModel" "speedX" "J", Cond.fieldLink RX5 70 "PastAndClearModel" "speedY" "J", Cond.methodLink RX5 64 yX5_eastOf, Cond.static yX5_eastOf]
def wsX5_tableOf_r2 : List Cond := [Cond.code yX5_eastOf cX5_eastOf 1 (some .int), Cond.methodLink RX5 50 yX5_northOf, Cond.static yX5_northOf, Cond.code yX5_northOf cX5_northOf 4 (some .int), Cond.methodLink RX5 107 yX5_isRisk, Cond.instanceMethod yX5_isRisk, Cond.selects RX5 yX5_isRisk yX5_isRisk, Cond.code yX5_isRisk cX5_isRisk 3 (some .boolean), Cond.fieldLink RX5 90 "PastAndClearModel" "farAbove" "J", Cond.fieldLink RX5 93 "PastAndClearModel" "farBelow" "J", Cond.fieldLink RX5 81 "PastAndClearModel" "timeAbove" "J", Cond.fieldLink RX5 84 "PastAndClearModel" "timeBelow" "J", Cond.methodLink RX5 100 yX5_findsClosest, Cond.instanceMethod yX5_findsClosest, Cond.selects RX5 yX5_findsClosest yX5_findsClosest, Cond.code yX5_findsClosest cX5_findsClosest 7 none, Cond.methodLink RX5 77 yX5_towards, Cond.instanceMethod yX5_towards, Cond.selects RX5 yX5_towards yX5_towards, Cond.code yX5_towards cX5_towards 1 (some .long), Cond.methodLink RX5 87 yX5_squareAway, Cond.instanceMethod yX5_squareAway, Cond.selects RX5 yX5_squareAway yX5_squareAway, Cond.code yX5_squareAway cX5_squareAway 1 (some .long)]
def wsX5_tableOf_r3 : List Cond := [Cond.methodLink RX5 96 yX5_common, Cond.static yX5_common, Cond.code yX5_common cX5_common 10 (some .long), Cond.methodLink RX5 119 yX5_sectorOf, Cond.instanceMethod yX5_sectorOf, Cond.selects RX5 yX5_sectorOf yX5_sectorOf, Cond.code yX5_sectorOf cX5_sectorOf 13 (some .int), Cond.constantLong RX5 111 (4), Cond.constantLong RX5 113 (-2)]
def wsX5_tableOf : List Cond := .code yX5_tableOf cX5_tableOf 5 (some .int) :: ((wsX5_tableOf_r1 ++ (wsX5_tableOf_r2 ++ wsX5_tableOf_r3)) ++ wsX50)
def wsX5_puts : List Cond := .code yX5_puts cX5_puts 6 none :: ([.methodLink RX5 132 yX5_tells, .instanceMethod yX5_tells, .selects RX5 yX5_tells yX5_tells, .initialized RX5, .code yX5_tells cX5_tells 4 none, .fieldLink RX5 7 "PastAndClearModel" "now" "[I"] ++ wsX50)
def wsX5_putOther : List Cond := .code yX5_putOther cX5_putOther 6 (some .int) :: ([.fieldLink RX5 7 "PastAndClearModel" "now" "[I", .methodLink RX5 122 yX5_isPlace, .static yX5_isPlace, .initialized RX5, .code yX5_isPlace cX5_isPlace 2 (some .boolean), .methodLink RX5 42 yX5_in, .static yX5_in, .code yX5_in cX5_in 3 (some .boolean), .methodLink RX5 125 yX5_isCourse, .static yX5_isCourse, .code yX5_isCourse cX5_isCourse 2 (some .boolean), .methodLink RX5 128 yX5_puts, .instanceMethod yX5_puts, .selects RX5 yX5_puts yX5_puts, .code yX5_puts cX5_puts 6 none, .methodLink RX5 132 yX5_tells, .instanceMethod yX5_tells, .selects RX5 yX5_tells yX5_tells, .code yX5_tells cX5_tells 4 none] ++ wsX50)
def wsX5_putOwn : List Cond := .code yX5_putOwn cX5_putOwn 6 (some .int) :: ([.fieldLink RX5 7 "PastAndClearModel" "now" "[I", .methodLink RX5 122 yX5_isPlace, .static yX5_isPlace, .initialized RX5, .code yX5_isPlace cX5_isPlace 2 (some .boolean), .methodLink RX5 42 yX5_in, .static yX5_in, .code yX5_in cX5_in 3 (some .boolean), .methodLink RX5 125 yX5_isCourse, .static yX5_isCourse, .code yX5_isCourse cX5_isCourse 2 (some .boolean), .methodLink RX5 128 yX5_puts, .instanceMethod yX5_puts, .selects RX5 yX5_puts yX5_puts, .code yX5_puts cX5_puts 6 none, .methodLink RX5 132 yX5_tells, .instanceMethod yX5_tells, .selects RX5 yX5_tells yX5_tells, .code yX5_tells cX5_tells 4 none] ++ wsX50)
def wsX5_putAway : List Cond := .code yX5_putAway cX5_putAway 3 (some .int) :: ([.fieldLink RX5 7 "PastAndClearModel" "now" "[I", .methodLink RX5 136 yX5_isOther, .instanceMethod yX5_isOther, .selects RX5 yX5_isOther yX5_isOther, .initialized RX5, .code yX5_isOther cX5_isOther 2 (some .boolean), .methodLink RX5 46 yX5_isShip, .instanceMethod yX5_isShip, .selects RX5 yX5_isShip yX5_isShip, .code yX5_isShip cX5_isShip 2 (some .boolean), .methodLink RX5 42 yX5_in, .static yX5_in, .code yX5_in cX5_in 3 (some .boolean)] ++ wsX50)
def wsX5_putCourse : List Cond := .code yX5_putCourse cX5_putCourse 5 (some .int) :: ([.methodLink RX5 46 yX5_isShip, .instanceMethod yX5_isShip, .selects RX5 yX5_isShip yX5_isShip, .initialized RX5, .code yX5_isShip cX5_isShip 2 (some .boolean), .fieldLink RX5 7 "PastAndClearModel" "now" "[I", .methodLink RX5 42 yX5_in, .static yX5_in, .code yX5_in cX5_in 3 (some .boolean), .methodLink RX5 125 yX5_isCourse, .static yX5_isCourse, .code yX5_isCourse cX5_isCourse 2 (some .boolean), .methodLink RX5 53 yX5_shipOf, .instanceMethod yX5_shipOf, .selects RX5 yX5_shipOf yX5_shipOf, .code yX5_shipOf cX5_shipOf 3 (some .int), .methodLink RX5 132 yX5_tells, .instanceMethod yX5_tells, .selects RX5 yX5_tells yX5_tells, .code yX5_tells cX5_tells 4 none] ++ wsX50)
def wsX5_putSetting : List Cond := .code yX5_putSetting cX5_putSetting 4 (some .int) :: ([.fieldLink RX5 7 "PastAndClearModel" "now" "[I", .methodLink RX5 42 yX5_in, .static yX5_in, .initialized RX5, .code yX5_in cX5_in 3 (some .boolean)] ++ wsX50)
def wsX5_isPastAndClear_r1 : List Cond := [Cond.fieldLink RX5 7 "PastAndClearModel" "now" "[I", Cond.methodLink RX5 103 yX5_laysAsTheyAre, Cond.instanceMethod yX5_laysAsTheyAre, Cond.selects RX5 yX5_laysAsTheyAre yX5_laysAsTheyAre, Cond.initialized RX5, Cond.code yX5_laysAsTheyAre cX5_laysAsTheyAre 3 none, Cond.methodLink RX5 53 yX5_shipOf, Cond.instanceMethod yX5_shipOf, Cond.selects RX5 yX5_shipOf yX5_shipOf, Cond.code yX5_shipOf cX5_shipOf 3 (some .int), Cond.methodLink RX5 73 yX5_lays, Cond.instanceMethod yX5_lays, Cond.selects RX5 yX5_lays yX5_lays, Cond.code yX5_lays cX5_lays 5 none, Cond.fieldLink RX5 57 "PastAndClearModel" "placeX" "J", Cond.fieldLink RX5 61 "PastAndClearModel" "placeY" "J", Cond.fieldLink RX5 67 "PastAndClearModel" "speedX" "J", Cond.fieldLink RX5 70 "PastAndClearModel" "speedY" "J", Cond.methodLink RX5 64 yX5_eastOf, Cond.static yX5_eastOf, Cond.code yX5_eastOf cX5_eastOf 1 (some .int), Cond.methodLink RX5 50 yX5_northOf, Cond.static yX5_northOf, Cond.code yX5_northOf cX5_northOf 4 (some .int)]
def wsX5_isPastAndClear_r2 : List Cond := [Cond.methodLink RX5 77 yX5_towards, Cond.instanceMethod yX5_towards, Cond.selects RX5 yX5_towards yX5_towards, Cond.code yX5_towards cX5_towards 1 (some .long), Cond.methodLink RX5 87 yX5_squareAway, Cond.instanceMethod yX5_squareAway, Cond.selects RX5 yX5_squareAway yX5_squareAway, Cond.code yX5_squareAway cX5_squareAway 1 (some .long)]
def wsX5_isPastAndClear : List Cond := .code yX5_isPastAndClear cX5_isPastAndClear 4 (some .boolean) :: ((wsX5_isPastAndClear_r1 ++ wsX5_isPastAndClear_r2) ++ wsX50)
def wsX5_look_r1 : List Cond := [Cond.fieldLink RX5 7 "PastAndClearModel" "now" "[I", Cond.methodLink RX5 53 yX5_shipOf, Cond.instanceMethod yX5_shipOf, Cond.selects RX5 yX5_shipOf yX5_shipOf, Cond.initialized RX5, Cond.code yX5_shipOf cX5_shipOf 3 (some .int), Cond.methodLink RX5 139 yX5_tableOf, Cond.instanceMethod yX5_tableOf, Cond.selects RX5 yX5_tableOf yX5_tableOf, Cond.code yX5_tableOf cX5_tableOf 5 (some .int), Cond.methodLink RX5 115 yX5_haveRisk, Cond.instanceMethod yX5_haveRisk, Cond.selects RX5 yX5_haveRisk yX5_haveRisk, Cond.code yX5_haveRisk cX5_haveRisk 3 (some .boolean), Cond.methodLink RX5 103 yX5_laysAsTheyAre, Cond.instanceMethod yX5_laysAsTheyAre, Cond.selects RX5 yX5_laysAsTheyAre yX5_laysAsTheyAre, Cond.code yX5_laysAsTheyAre cX5_laysAsTheyAre 3 none, Cond.methodLink RX5 73 yX5_lays, Cond.instanceMethod yX5_lays, Cond.selects RX5 yX5_lays yX5_lays, Cond.code yX5_lays cX5_lays 5 none, Cond.fieldLink RX5 57 "PastAndClearModel" "placeX" "J", Cond.fieldLink RX5 61 "PastAndClearModel" "placeY" "J"]
def wsX5_look_r2 : List Cond := [Cond.fieldLink RX5 67 "PastAndClearModel" "speedX" "J", Cond.fieldLink RX5 70 "PastAndClearModel" "speedY" "J", Cond.methodLink RX5 64 yX5_eastOf, Cond.static yX5_eastOf, Cond.code yX5_eastOf cX5_eastOf 1 (some .int), Cond.methodLink RX5 50 yX5_northOf, Cond.static yX5_northOf, Cond.code yX5_northOf cX5_northOf 4 (some .int), Cond.methodLink RX5 107 yX5_isRisk, Cond.instanceMethod yX5_isRisk, Cond.selects RX5 yX5_isRisk yX5_isRisk, Cond.code yX5_isRisk cX5_isRisk 3 (some .boolean), Cond.fieldLink RX5 90 "PastAndClearModel" "farAbove" "J", Cond.fieldLink RX5 93 "PastAndClearModel" "farBelow" "J", Cond.fieldLink RX5 81 "PastAndClearModel" "timeAbove" "J", Cond.fieldLink RX5 84 "PastAndClearModel" "timeBelow" "J", Cond.methodLink RX5 100 yX5_findsClosest, Cond.instanceMethod yX5_findsClosest, Cond.selects RX5 yX5_findsClosest yX5_findsClosest, Cond.code yX5_findsClosest cX5_findsClosest 7 none, Cond.methodLink RX5 77 yX5_towards, Cond.instanceMethod yX5_towards, Cond.selects RX5 yX5_towards yX5_towards, Cond.code yX5_towards cX5_towards 1 (some .long)]
def wsX5_look_r3 : List Cond := [Cond.methodLink RX5 87 yX5_squareAway, Cond.instanceMethod yX5_squareAway, Cond.selects RX5 yX5_squareAway yX5_squareAway, Cond.code yX5_squareAway cX5_squareAway 1 (some .long), Cond.methodLink RX5 96 yX5_common, Cond.static yX5_common, Cond.code yX5_common cX5_common 10 (some .long), Cond.methodLink RX5 119 yX5_sectorOf, Cond.instanceMethod yX5_sectorOf, Cond.selects RX5 yX5_sectorOf yX5_sectorOf, Cond.code yX5_sectorOf cX5_sectorOf 13 (some .int), Cond.constantLong RX5 111 (4), Cond.constantLong RX5 113 (-2), Cond.methodLink RX5 142 yX5_isPastAndClear, Cond.instanceMethod yX5_isPastAndClear, Cond.selects RX5 yX5_isPastAndClear yX5_isPastAndClear, Cond.code yX5_isPastAndClear cX5_isPastAndClear 4 (some .boolean), Cond.methodLink RX5 132 yX5_tells, Cond.instanceMethod yX5_tells, Cond.selects RX5 yX5_tells yX5_tells, Cond.code yX5_tells cX5_tells 4 none]
def wsX5_look : List Cond := .code yX5_look cX5_look 5 (some .int) :: ((wsX5_look_r1 ++ (wsX5_look_r2 ++ wsX5_look_r3)) ++ wsX50)
def wsX5_eastSpeed : List Cond := .code yX5_eastSpeed cX5_eastSpeed 2 (some .int) :: ([.methodLink RX5 53 yX5_shipOf, .instanceMethod yX5_shipOf, .selects RX5 yX5_shipOf yX5_shipOf, .initialized RX5, .code yX5_shipOf cX5_shipOf 3 (some .int), .fieldLink RX5 7 "PastAndClearModel" "now" "[I", .methodLink RX5 64 yX5_eastOf, .static yX5_eastOf, .code yX5_eastOf cX5_eastOf 1 (some .int), .methodLink RX5 50 yX5_northOf, .static yX5_northOf, .code yX5_northOf cX5_northOf 4 (some .int)] ++ wsX50)
def wsX5_northSpeed : List Cond := .code yX5_northSpeed cX5_northSpeed 2 (some .int) :: ([.methodLink RX5 53 yX5_shipOf, .instanceMethod yX5_shipOf, .selects RX5 yX5_shipOf yX5_shipOf, .initialized RX5, .code yX5_shipOf cX5_shipOf 3 (some .int), .fieldLink RX5 7 "PastAndClearModel" "now" "[I", .methodLink RX5 50 yX5_northOf, .static yX5_northOf, .code yX5_northOf cX5_northOf 4 (some .int)] ++ wsX50)
def wsX5_putSteps_r1 : List Cond := [Cond.fieldLink RX5 7 "PastAndClearModel" "now" "[I", Cond.methodLink RX5 42 yX5_in, Cond.static yX5_in, Cond.initialized RX5, Cond.code yX5_in cX5_in 3 (some .boolean), Cond.methodLink RX5 53 yX5_shipOf, Cond.instanceMethod yX5_shipOf, Cond.selects RX5 yX5_shipOf yX5_shipOf, Cond.code yX5_shipOf cX5_shipOf 3 (some .int), Cond.methodLink RX5 145 yX5_eastSpeed, Cond.instanceMethod yX5_eastSpeed, Cond.selects RX5 yX5_eastSpeed yX5_eastSpeed, Cond.code yX5_eastSpeed cX5_eastSpeed 2 (some .int), Cond.methodLink RX5 64 yX5_eastOf, Cond.static yX5_eastOf, Cond.code yX5_eastOf cX5_eastOf 1 (some .int), Cond.methodLink RX5 50 yX5_northOf, Cond.static yX5_northOf, Cond.code yX5_northOf cX5_northOf 4 (some .int), Cond.methodLink RX5 148 yX5_northSpeed, Cond.instanceMethod yX5_northSpeed, Cond.selects RX5 yX5_northSpeed yX5_northSpeed, Cond.code yX5_northSpeed cX5_northSpeed 2 (some .int), Cond.methodLink RX5 122 yX5_isPlace]
def wsX5_putSteps_r2 : List Cond := [Cond.static yX5_isPlace, Cond.code yX5_isPlace cX5_isPlace 2 (some .boolean), Cond.methodLink RX5 132 yX5_tells, Cond.instanceMethod yX5_tells, Cond.selects RX5 yX5_tells yX5_tells, Cond.code yX5_tells cX5_tells 4 none, Cond.methodLink RX5 151 yX5_look, Cond.instanceMethod yX5_look, Cond.selects RX5 yX5_look yX5_look, Cond.code yX5_look cX5_look 5 (some .int), Cond.methodLink RX5 139 yX5_tableOf, Cond.instanceMethod yX5_tableOf, Cond.selects RX5 yX5_tableOf yX5_tableOf, Cond.code yX5_tableOf cX5_tableOf 5 (some .int), Cond.methodLink RX5 115 yX5_haveRisk, Cond.instanceMethod yX5_haveRisk, Cond.selects RX5 yX5_haveRisk yX5_haveRisk, Cond.code yX5_haveRisk cX5_haveRisk 3 (some .boolean), Cond.methodLink RX5 103 yX5_laysAsTheyAre, Cond.instanceMethod yX5_laysAsTheyAre, Cond.selects RX5 yX5_laysAsTheyAre yX5_laysAsTheyAre, Cond.code yX5_laysAsTheyAre cX5_laysAsTheyAre 3 none, Cond.methodLink RX5 73 yX5_lays, Cond.instanceMethod yX5_lays]
def wsX5_putSteps_r3 : List Cond := [Cond.selects RX5 yX5_lays yX5_lays, Cond.code yX5_lays cX5_lays 5 none, Cond.fieldLink RX5 57 "PastAndClearModel" "placeX" "J", Cond.fieldLink RX5 61 "PastAndClearModel" "placeY" "J", Cond.fieldLink RX5 67 "PastAndClearModel" "speedX" "J", Cond.fieldLink RX5 70 "PastAndClearModel" "speedY" "J", Cond.methodLink RX5 107 yX5_isRisk, Cond.instanceMethod yX5_isRisk, Cond.selects RX5 yX5_isRisk yX5_isRisk, Cond.code yX5_isRisk cX5_isRisk 3 (some .boolean), Cond.fieldLink RX5 90 "PastAndClearModel" "farAbove" "J", Cond.fieldLink RX5 93 "PastAndClearModel" "farBelow" "J", Cond.fieldLink RX5 81 "PastAndClearModel" "timeAbove" "J", Cond.fieldLink RX5 84 "PastAndClearModel" "timeBelow" "J", Cond.methodLink RX5 100 yX5_findsClosest, Cond.instanceMethod yX5_findsClosest, Cond.selects RX5 yX5_findsClosest yX5_findsClosest, Cond.code yX5_findsClosest cX5_findsClosest 7 none, Cond.methodLink RX5 77 yX5_towards, Cond.instanceMethod yX5_towards, Cond.selects RX5 yX5_towards yX5_towards, Cond.code yX5_towards cX5_towards 1 (some .long), Cond.methodLink RX5 87 yX5_squareAway, Cond.instanceMethod yX5_squareAway]
def wsX5_putSteps_r4 : List Cond := [Cond.selects RX5 yX5_squareAway yX5_squareAway, Cond.code yX5_squareAway cX5_squareAway 1 (some .long), Cond.methodLink RX5 96 yX5_common, Cond.static yX5_common, Cond.code yX5_common cX5_common 10 (some .long), Cond.methodLink RX5 119 yX5_sectorOf, Cond.instanceMethod yX5_sectorOf, Cond.selects RX5 yX5_sectorOf yX5_sectorOf, Cond.code yX5_sectorOf cX5_sectorOf 13 (some .int), Cond.constantLong RX5 111 (4), Cond.constantLong RX5 113 (-2), Cond.methodLink RX5 142 yX5_isPastAndClear, Cond.instanceMethod yX5_isPastAndClear, Cond.selects RX5 yX5_isPastAndClear yX5_isPastAndClear, Cond.code yX5_isPastAndClear cX5_isPastAndClear 4 (some .boolean)]
def wsX5_putSteps : List Cond := .code yX5_putSteps cX5_putSteps 5 (some .int) :: ((wsX5_putSteps_r1 ++ (wsX5_putSteps_r2 ++ (wsX5_putSteps_r3 ++ wsX5_putSteps_r4))) ++ wsX50)
def wsX5_isClear_r1 : List Cond := [Cond.fieldLink RX5 7 "PastAndClearModel" "now" "[I", Cond.methodLink RX5 73 yX5_lays, Cond.instanceMethod yX5_lays, Cond.selects RX5 yX5_lays yX5_lays, Cond.initialized RX5, Cond.code yX5_lays cX5_lays 5 none, Cond.fieldLink RX5 57 "PastAndClearModel" "placeX" "J", Cond.fieldLink RX5 61 "PastAndClearModel" "placeY" "J", Cond.fieldLink RX5 67 "PastAndClearModel" "speedX" "J", Cond.fieldLink RX5 70 "PastAndClearModel" "speedY" "J", Cond.methodLink RX5 53 yX5_shipOf, Cond.instanceMethod yX5_shipOf, Cond.selects RX5 yX5_shipOf yX5_shipOf, Cond.code yX5_shipOf cX5_shipOf 3 (some .int), Cond.methodLink RX5 64 yX5_eastOf, Cond.static yX5_eastOf, Cond.code yX5_eastOf cX5_eastOf 1 (some .int), Cond.methodLink RX5 50 yX5_northOf, Cond.static yX5_northOf, Cond.code yX5_northOf cX5_northOf 4 (some .int), Cond.methodLink RX5 107 yX5_isRisk, Cond.instanceMethod yX5_isRisk, Cond.selects RX5 yX5_isRisk yX5_isRisk, Cond.code yX5_isRisk cX5_isRisk 3 (some .boolean)]
def wsX5_isClear_r2 : List Cond := [Cond.fieldLink RX5 90 "PastAndClearModel" "farAbove" "J", Cond.fieldLink RX5 93 "PastAndClearModel" "farBelow" "J", Cond.fieldLink RX5 81 "PastAndClearModel" "timeAbove" "J", Cond.fieldLink RX5 84 "PastAndClearModel" "timeBelow" "J", Cond.methodLink RX5 100 yX5_findsClosest, Cond.instanceMethod yX5_findsClosest, Cond.selects RX5 yX5_findsClosest yX5_findsClosest, Cond.code yX5_findsClosest cX5_findsClosest 7 none, Cond.methodLink RX5 77 yX5_towards, Cond.instanceMethod yX5_towards, Cond.selects RX5 yX5_towards yX5_towards, Cond.code yX5_towards cX5_towards 1 (some .long), Cond.methodLink RX5 87 yX5_squareAway, Cond.instanceMethod yX5_squareAway, Cond.selects RX5 yX5_squareAway yX5_squareAway, Cond.code yX5_squareAway cX5_squareAway 1 (some .long), Cond.methodLink RX5 96 yX5_common, Cond.static yX5_common, Cond.code yX5_common cX5_common 10 (some .long)]
def wsX5_isClear : List Cond := .code yX5_isClear cX5_isClear 6 (some .boolean) :: ((wsX5_isClear_r1 ++ wsX5_isClear_r2) ++ wsX50)
def wsX5_mustGiveWay_r1 : List Cond := [Cond.fieldLink RX5 7 "PastAndClearModel" "now" "[I", Cond.methodLink RX5 53 yX5_shipOf, Cond.instanceMethod yX5_shipOf, Cond.selects RX5 yX5_shipOf yX5_shipOf, Cond.initialized RX5, Cond.code yX5_shipOf cX5_shipOf 3 (some .int), Cond.methodLink RX5 139 yX5_tableOf, Cond.instanceMethod yX5_tableOf, Cond.selects RX5 yX5_tableOf yX5_tableOf, Cond.code yX5_tableOf cX5_tableOf 5 (some .int), Cond.methodLink RX5 115 yX5_haveRisk, Cond.instanceMethod yX5_haveRisk, Cond.selects RX5 yX5_haveRisk yX5_haveRisk, Cond.code yX5_haveRisk cX5_haveRisk 3 (some .boolean), Cond.methodLink RX5 103 yX5_laysAsTheyAre, Cond.instanceMethod yX5_laysAsTheyAre, Cond.selects RX5 yX5_laysAsTheyAre yX5_laysAsTheyAre, Cond.code yX5_laysAsTheyAre cX5_laysAsTheyAre 3 none, Cond.methodLink RX5 73 yX5_lays, Cond.instanceMethod yX5_lays, Cond.selects RX5 yX5_lays yX5_lays, Cond.code yX5_lays cX5_lays 5 none, Cond.fieldLink RX5 57 "PastAndClearModel" "placeX" "J", Cond.fieldLink RX5 61 "PastAndClearModel" "placeY" "J"]
def wsX5_mustGiveWay_r2 : List Cond := [Cond.fieldLink RX5 67 "PastAndClearModel" "speedX" "J", Cond.fieldLink RX5 70 "PastAndClearModel" "speedY" "J", Cond.methodLink RX5 64 yX5_eastOf, Cond.static yX5_eastOf, Cond.code yX5_eastOf cX5_eastOf 1 (some .int), Cond.methodLink RX5 50 yX5_northOf, Cond.static yX5_northOf, Cond.code yX5_northOf cX5_northOf 4 (some .int), Cond.methodLink RX5 107 yX5_isRisk, Cond.instanceMethod yX5_isRisk, Cond.selects RX5 yX5_isRisk yX5_isRisk, Cond.code yX5_isRisk cX5_isRisk 3 (some .boolean), Cond.fieldLink RX5 90 "PastAndClearModel" "farAbove" "J", Cond.fieldLink RX5 93 "PastAndClearModel" "farBelow" "J", Cond.fieldLink RX5 81 "PastAndClearModel" "timeAbove" "J", Cond.fieldLink RX5 84 "PastAndClearModel" "timeBelow" "J", Cond.methodLink RX5 100 yX5_findsClosest, Cond.instanceMethod yX5_findsClosest, Cond.selects RX5 yX5_findsClosest yX5_findsClosest, Cond.code yX5_findsClosest cX5_findsClosest 7 none, Cond.methodLink RX5 77 yX5_towards, Cond.instanceMethod yX5_towards, Cond.selects RX5 yX5_towards yX5_towards, Cond.code yX5_towards cX5_towards 1 (some .long)]
def wsX5_mustGiveWay_r3 : List Cond := [Cond.methodLink RX5 87 yX5_squareAway, Cond.instanceMethod yX5_squareAway, Cond.selects RX5 yX5_squareAway yX5_squareAway, Cond.code yX5_squareAway cX5_squareAway 1 (some .long), Cond.methodLink RX5 96 yX5_common, Cond.static yX5_common, Cond.code yX5_common cX5_common 10 (some .long), Cond.methodLink RX5 119 yX5_sectorOf, Cond.instanceMethod yX5_sectorOf, Cond.selects RX5 yX5_sectorOf yX5_sectorOf, Cond.code yX5_sectorOf cX5_sectorOf 13 (some .int), Cond.constantLong RX5 111 (4), Cond.constantLong RX5 113 (-2)]
def wsX5_mustGiveWay : List Cond := .code yX5_mustGiveWay cX5_mustGiveWay 4 (some .boolean) :: ((wsX5_mustGiveWay_r1 ++ (wsX5_mustGiveWay_r2 ++ wsX5_mustGiveWay_r3)) ++ wsX50)
def wsX5_adviceFor_r1 : List Cond := [Cond.methodLink RX5 53 yX5_shipOf, Cond.instanceMethod yX5_shipOf, Cond.selects RX5 yX5_shipOf yX5_shipOf, Cond.initialized RX5, Cond.code yX5_shipOf cX5_shipOf 3 (some .int), Cond.fieldLink RX5 7 "PastAndClearModel" "now" "[I", Cond.methodLink RX5 155 yX5_mustGiveWay, Cond.instanceMethod yX5_mustGiveWay, Cond.selects RX5 yX5_mustGiveWay yX5_mustGiveWay, Cond.code yX5_mustGiveWay cX5_mustGiveWay 4 (some .boolean), Cond.methodLink RX5 139 yX5_tableOf, Cond.instanceMethod yX5_tableOf, Cond.selects RX5 yX5_tableOf yX5_tableOf, Cond.code yX5_tableOf cX5_tableOf 5 (some .int), Cond.methodLink RX5 115 yX5_haveRisk, Cond.instanceMethod yX5_haveRisk, Cond.selects RX5 yX5_haveRisk yX5_haveRisk, Cond.code yX5_haveRisk cX5_haveRisk 3 (some .boolean), Cond.methodLink RX5 103 yX5_laysAsTheyAre, Cond.instanceMethod yX5_laysAsTheyAre, Cond.selects RX5 yX5_laysAsTheyAre yX5_laysAsTheyAre, Cond.code yX5_laysAsTheyAre cX5_laysAsTheyAre 3 none, Cond.methodLink RX5 73 yX5_lays, Cond.instanceMethod yX5_lays]
def wsX5_adviceFor_r2 : List Cond := [Cond.selects RX5 yX5_lays yX5_lays, Cond.code yX5_lays cX5_lays 5 none, Cond.fieldLink RX5 57 "PastAndClearModel" "placeX" "J", Cond.fieldLink RX5 61 "PastAndClearModel" "placeY" "J", Cond.fieldLink RX5 67 "PastAndClearModel" "speedX" "J", Cond.fieldLink RX5 70 "PastAndClearModel" "speedY" "J", Cond.methodLink RX5 64 yX5_eastOf, Cond.static yX5_eastOf, Cond.code yX5_eastOf cX5_eastOf 1 (some .int), Cond.methodLink RX5 50 yX5_northOf, Cond.static yX5_northOf, Cond.code yX5_northOf cX5_northOf 4 (some .int), Cond.methodLink RX5 107 yX5_isRisk, Cond.instanceMethod yX5_isRisk, Cond.selects RX5 yX5_isRisk yX5_isRisk, Cond.code yX5_isRisk cX5_isRisk 3 (some .boolean), Cond.fieldLink RX5 90 "PastAndClearModel" "farAbove" "J", Cond.fieldLink RX5 93 "PastAndClearModel" "farBelow" "J", Cond.fieldLink RX5 81 "PastAndClearModel" "timeAbove" "J", Cond.fieldLink RX5 84 "PastAndClearModel" "timeBelow" "J", Cond.methodLink RX5 100 yX5_findsClosest, Cond.instanceMethod yX5_findsClosest, Cond.selects RX5 yX5_findsClosest yX5_findsClosest, Cond.code yX5_findsClosest cX5_findsClosest 7 none]
def wsX5_adviceFor_r3 : List Cond := [Cond.methodLink RX5 77 yX5_towards, Cond.instanceMethod yX5_towards, Cond.selects RX5 yX5_towards yX5_towards, Cond.code yX5_towards cX5_towards 1 (some .long), Cond.methodLink RX5 87 yX5_squareAway, Cond.instanceMethod yX5_squareAway, Cond.selects RX5 yX5_squareAway yX5_squareAway, Cond.code yX5_squareAway cX5_squareAway 1 (some .long), Cond.methodLink RX5 96 yX5_common, Cond.static yX5_common, Cond.code yX5_common cX5_common 10 (some .long), Cond.methodLink RX5 119 yX5_sectorOf, Cond.instanceMethod yX5_sectorOf, Cond.selects RX5 yX5_sectorOf yX5_sectorOf, Cond.code yX5_sectorOf cX5_sectorOf 13 (some .int), Cond.constantLong RX5 111 (4), Cond.constantLong RX5 113 (-2), Cond.methodLink RX5 158 yX5_isClear, Cond.instanceMethod yX5_isClear, Cond.selects RX5 yX5_isClear yX5_isClear, Cond.code yX5_isClear cX5_isClear 6 (some .boolean)]
def wsX5_adviceFor : List Cond := .code yX5_adviceFor cX5_adviceFor 5 (some .int) :: ((wsX5_adviceFor_r1 ++ (wsX5_adviceFor_r2 ++ wsX5_adviceFor_r3)) ++ wsX50)
def wsX5_putObeyed_r1 : List Cond := [Cond.methodLink RX5 161 yX5_adviceFor, Cond.instanceMethod yX5_adviceFor, Cond.selects RX5 yX5_adviceFor yX5_adviceFor, Cond.initialized RX5, Cond.code yX5_adviceFor cX5_adviceFor 5 (some .int), Cond.methodLink RX5 53 yX5_shipOf, Cond.instanceMethod yX5_shipOf, Cond.selects RX5 yX5_shipOf yX5_shipOf, Cond.code yX5_shipOf cX5_shipOf 3 (some .int), Cond.fieldLink RX5 7 "PastAndClearModel" "now" "[I", Cond.methodLink RX5 155 yX5_mustGiveWay, Cond.instanceMethod yX5_mustGiveWay, Cond.selects RX5 yX5_mustGiveWay yX5_mustGiveWay, Cond.code yX5_mustGiveWay cX5_mustGiveWay 4 (some .boolean), Cond.methodLink RX5 139 yX5_tableOf, Cond.instanceMethod yX5_tableOf, Cond.selects RX5 yX5_tableOf yX5_tableOf, Cond.code yX5_tableOf cX5_tableOf 5 (some .int), Cond.methodLink RX5 115 yX5_haveRisk, Cond.instanceMethod yX5_haveRisk, Cond.selects RX5 yX5_haveRisk yX5_haveRisk, Cond.code yX5_haveRisk cX5_haveRisk 3 (some .boolean), Cond.methodLink RX5 103 yX5_laysAsTheyAre, Cond.instanceMethod yX5_laysAsTheyAre]
def wsX5_putObeyed_r2 : List Cond := [Cond.selects RX5 yX5_laysAsTheyAre yX5_laysAsTheyAre, Cond.code yX5_laysAsTheyAre cX5_laysAsTheyAre 3 none, Cond.methodLink RX5 73 yX5_lays, Cond.instanceMethod yX5_lays, Cond.selects RX5 yX5_lays yX5_lays, Cond.code yX5_lays cX5_lays 5 none, Cond.fieldLink RX5 57 "PastAndClearModel" "placeX" "J", Cond.fieldLink RX5 61 "PastAndClearModel" "placeY" "J", Cond.fieldLink RX5 67 "PastAndClearModel" "speedX" "J", Cond.fieldLink RX5 70 "PastAndClearModel" "speedY" "J", Cond.methodLink RX5 64 yX5_eastOf, Cond.static yX5_eastOf, Cond.code yX5_eastOf cX5_eastOf 1 (some .int), Cond.methodLink RX5 50 yX5_northOf, Cond.static yX5_northOf, Cond.code yX5_northOf cX5_northOf 4 (some .int), Cond.methodLink RX5 107 yX5_isRisk, Cond.instanceMethod yX5_isRisk, Cond.selects RX5 yX5_isRisk yX5_isRisk, Cond.code yX5_isRisk cX5_isRisk 3 (some .boolean), Cond.fieldLink RX5 90 "PastAndClearModel" "farAbove" "J", Cond.fieldLink RX5 93 "PastAndClearModel" "farBelow" "J", Cond.fieldLink RX5 81 "PastAndClearModel" "timeAbove" "J", Cond.fieldLink RX5 84 "PastAndClearModel" "timeBelow" "J"]
def wsX5_putObeyed_r3 : List Cond := [Cond.methodLink RX5 100 yX5_findsClosest, Cond.instanceMethod yX5_findsClosest, Cond.selects RX5 yX5_findsClosest yX5_findsClosest, Cond.code yX5_findsClosest cX5_findsClosest 7 none, Cond.methodLink RX5 77 yX5_towards, Cond.instanceMethod yX5_towards, Cond.selects RX5 yX5_towards yX5_towards, Cond.code yX5_towards cX5_towards 1 (some .long), Cond.methodLink RX5 87 yX5_squareAway, Cond.instanceMethod yX5_squareAway, Cond.selects RX5 yX5_squareAway yX5_squareAway, Cond.code yX5_squareAway cX5_squareAway 1 (some .long), Cond.methodLink RX5 96 yX5_common, Cond.static yX5_common, Cond.code yX5_common cX5_common 10 (some .long), Cond.methodLink RX5 119 yX5_sectorOf, Cond.instanceMethod yX5_sectorOf, Cond.selects RX5 yX5_sectorOf yX5_sectorOf, Cond.code yX5_sectorOf cX5_sectorOf 13 (some .int), Cond.constantLong RX5 111 (4), Cond.constantLong RX5 113 (-2), Cond.methodLink RX5 158 yX5_isClear, Cond.instanceMethod yX5_isClear, Cond.selects RX5 yX5_isClear yX5_isClear]
def wsX5_putObeyed_r4 : List Cond := [Cond.code yX5_isClear cX5_isClear 6 (some .boolean), Cond.methodLink RX5 132 yX5_tells, Cond.instanceMethod yX5_tells, Cond.selects RX5 yX5_tells yX5_tells, Cond.code yX5_tells cX5_tells 4 none]
def wsX5_putObeyed : List Cond := .code yX5_putObeyed cX5_putObeyed 2 (some .int) :: ((wsX5_putObeyed_r1 ++ (wsX5_putObeyed_r2 ++ (wsX5_putObeyed_r3 ++ wsX5_putObeyed_r4))) ++ wsX50)
def wsX5_adds_r1 : List Cond := [Cond.methodLink RX5 164 yX5_laysAside, Cond.instanceMethod yX5_laysAside, Cond.selects RX5 yX5_laysAside yX5_laysAside, Cond.initialized RX5, Cond.code yX5_laysAside cX5_laysAside 2 none, Cond.fieldLink RX5 13 "PastAndClearModel" "aside" "[I", Cond.fieldLink RX5 7 "PastAndClearModel" "now" "[I", Cond.methodLink RX5 167 yX5_putOther, Cond.instanceMethod yX5_putOther, Cond.selects RX5 yX5_putOther yX5_putOther, Cond.code yX5_putOther cX5_putOther 6 (some .int), Cond.methodLink RX5 122 yX5_isPlace, Cond.static yX5_isPlace, Cond.code yX5_isPlace cX5_isPlace 2 (some .boolean), Cond.methodLink RX5 42 yX5_in, Cond.static yX5_in, Cond.code yX5_in cX5_in 3 (some .boolean), Cond.methodLink RX5 125 yX5_isCourse, Cond.static yX5_isCourse, Cond.code yX5_isCourse cX5_isCourse 2 (some .boolean), Cond.methodLink RX5 128 yX5_puts, Cond.instanceMethod yX5_puts, Cond.selects RX5 yX5_puts yX5_puts, Cond.code yX5_puts cX5_puts 6 none]
def wsX5_adds_r2 : List Cond := [Cond.methodLink RX5 132 yX5_tells, Cond.instanceMethod yX5_tells, Cond.selects RX5 yX5_tells yX5_tells, Cond.code yX5_tells cX5_tells 4 none, Cond.methodLink RX5 171 yX5_finished, Cond.instanceMethod yX5_finished, Cond.selects RX5 yX5_finished yX5_finished, Cond.code yX5_finished cX5_finished 2 (some .int), Cond.methodLink RX5 35 yX5_refuses, Cond.instanceMethod yX5_refuses, Cond.selects RX5 yX5_refuses yX5_refuses, Cond.code yX5_refuses cX5_refuses 2 (some .int), Cond.fieldLink RX5 19 "PastAndClearModel" "refusals" "[I", Cond.methodLink RX5 39 yX5_remembers, Cond.instanceMethod yX5_remembers, Cond.selects RX5 yX5_remembers yX5_remembers, Cond.code yX5_remembers cX5_remembers 2 none, Cond.fieldLink RX5 31 "PastAndClearModel" "states" "I", Cond.fieldLink RX5 16 "PastAndClearModel" "past" "[I"]
def wsX5_adds : List Cond := .code yX5_adds cX5_adds 5 (some .int) :: ((wsX5_adds_r1 ++ wsX5_adds_r2) ++ wsX50)
def wsX5_own_r1 : List Cond := [Cond.methodLink RX5 164 yX5_laysAside, Cond.instanceMethod yX5_laysAside, Cond.selects RX5 yX5_laysAside yX5_laysAside, Cond.initialized RX5, Cond.code yX5_laysAside cX5_laysAside 2 none, Cond.fieldLink RX5 13 "PastAndClearModel" "aside" "[I", Cond.fieldLink RX5 7 "PastAndClearModel" "now" "[I", Cond.methodLink RX5 174 yX5_putOwn, Cond.instanceMethod yX5_putOwn, Cond.selects RX5 yX5_putOwn yX5_putOwn, Cond.code yX5_putOwn cX5_putOwn 6 (some .int), Cond.methodLink RX5 122 yX5_isPlace, Cond.static yX5_isPlace, Cond.code yX5_isPlace cX5_isPlace 2 (some .boolean), Cond.methodLink RX5 42 yX5_in, Cond.static yX5_in, Cond.code yX5_in cX5_in 3 (some .boolean), Cond.methodLink RX5 125 yX5_isCourse, Cond.static yX5_isCourse, Cond.code yX5_isCourse cX5_isCourse 2 (some .boolean), Cond.methodLink RX5 128 yX5_puts, Cond.instanceMethod yX5_puts, Cond.selects RX5 yX5_puts yX5_puts, Cond.code yX5_puts cX5_puts 6 none]
def wsX5_own_r2 : List Cond := [Cond.methodLink RX5 132 yX5_tells, Cond.instanceMethod yX5_tells, Cond.selects RX5 yX5_tells yX5_tells, Cond.code yX5_tells cX5_tells 4 none, Cond.methodLink RX5 171 yX5_finished, Cond.instanceMethod yX5_finished, Cond.selects RX5 yX5_finished yX5_finished, Cond.code yX5_finished cX5_finished 2 (some .int), Cond.methodLink RX5 35 yX5_refuses, Cond.instanceMethod yX5_refuses, Cond.selects RX5 yX5_refuses yX5_refuses, Cond.code yX5_refuses cX5_refuses 2 (some .int), Cond.fieldLink RX5 19 "PastAndClearModel" "refusals" "[I", Cond.methodLink RX5 39 yX5_remembers, Cond.instanceMethod yX5_remembers, Cond.selects RX5 yX5_remembers yX5_remembers, Cond.code yX5_remembers cX5_remembers 2 none, Cond.fieldLink RX5 31 "PastAndClearModel" "states" "I", Cond.fieldLink RX5 16 "PastAndClearModel" "past" "[I"]
def wsX5_own : List Cond := .code yX5_own cX5_own 5 (some .int) :: ((wsX5_own_r1 ++ wsX5_own_r2) ++ wsX50)
def wsX5_drops_r1 : List Cond := [Cond.methodLink RX5 164 yX5_laysAside, Cond.instanceMethod yX5_laysAside, Cond.selects RX5 yX5_laysAside yX5_laysAside, Cond.initialized RX5, Cond.code yX5_laysAside cX5_laysAside 2 none, Cond.fieldLink RX5 13 "PastAndClearModel" "aside" "[I", Cond.fieldLink RX5 7 "PastAndClearModel" "now" "[I", Cond.methodLink RX5 177 yX5_putAway, Cond.instanceMethod yX5_putAway, Cond.selects RX5 yX5_putAway yX5_putAway, Cond.code yX5_putAway cX5_putAway 3 (some .int), Cond.methodLink RX5 136 yX5_isOther, Cond.instanceMethod yX5_isOther, Cond.selects RX5 yX5_isOther yX5_isOther, Cond.code yX5_isOther cX5_isOther 2 (some .boolean), Cond.methodLink RX5 46 yX5_isShip, Cond.instanceMethod yX5_isShip, Cond.selects RX5 yX5_isShip yX5_isShip, Cond.code yX5_isShip cX5_isShip 2 (some .boolean), Cond.methodLink RX5 42 yX5_in, Cond.static yX5_in, Cond.code yX5_in cX5_in 3 (some .boolean), Cond.methodLink RX5 171 yX5_finished, Cond.instanceMethod yX5_finished]
def wsX5_drops_r2 : List Cond := [Cond.selects RX5 yX5_finished yX5_finished, Cond.code yX5_finished cX5_finished 2 (some .int), Cond.methodLink RX5 35 yX5_refuses, Cond.instanceMethod yX5_refuses, Cond.selects RX5 yX5_refuses yX5_refuses, Cond.code yX5_refuses cX5_refuses 2 (some .int), Cond.fieldLink RX5 19 "PastAndClearModel" "refusals" "[I", Cond.methodLink RX5 39 yX5_remembers, Cond.instanceMethod yX5_remembers, Cond.selects RX5 yX5_remembers yX5_remembers, Cond.code yX5_remembers cX5_remembers 2 none, Cond.fieldLink RX5 31 "PastAndClearModel" "states" "I", Cond.fieldLink RX5 16 "PastAndClearModel" "past" "[I"]
def wsX5_drops : List Cond := .code yX5_drops cX5_drops 2 (some .int) :: ((wsX5_drops_r1 ++ wsX5_drops_r2) ++ wsX50)
def wsX5_veers_r1 : List Cond := [Cond.methodLink RX5 164 yX5_laysAside, Cond.instanceMethod yX5_laysAside, Cond.selects RX5 yX5_laysAside yX5_laysAside, Cond.initialized RX5, Cond.code yX5_laysAside cX5_laysAside 2 none, Cond.fieldLink RX5 13 "PastAndClearModel" "aside" "[I", Cond.fieldLink RX5 7 "PastAndClearModel" "now" "[I", Cond.methodLink RX5 180 yX5_putCourse, Cond.instanceMethod yX5_putCourse, Cond.selects RX5 yX5_putCourse yX5_putCourse, Cond.code yX5_putCourse cX5_putCourse 5 (some .int), Cond.methodLink RX5 46 yX5_isShip, Cond.instanceMethod yX5_isShip, Cond.selects RX5 yX5_isShip yX5_isShip, Cond.code yX5_isShip cX5_isShip 2 (some .boolean), Cond.methodLink RX5 42 yX5_in, Cond.static yX5_in, Cond.code yX5_in cX5_in 3 (some .boolean), Cond.methodLink RX5 125 yX5_isCourse, Cond.static yX5_isCourse, Cond.code yX5_isCourse cX5_isCourse 2 (some .boolean), Cond.methodLink RX5 53 yX5_shipOf, Cond.instanceMethod yX5_shipOf, Cond.selects RX5 yX5_shipOf yX5_shipOf]
def wsX5_veers_r2 : List Cond := [Cond.code yX5_shipOf cX5_shipOf 3 (some .int), Cond.methodLink RX5 132 yX5_tells, Cond.instanceMethod yX5_tells, Cond.selects RX5 yX5_tells yX5_tells, Cond.code yX5_tells cX5_tells 4 none, Cond.methodLink RX5 171 yX5_finished, Cond.instanceMethod yX5_finished, Cond.selects RX5 yX5_finished yX5_finished, Cond.code yX5_finished cX5_finished 2 (some .int), Cond.methodLink RX5 35 yX5_refuses, Cond.instanceMethod yX5_refuses, Cond.selects RX5 yX5_refuses yX5_refuses, Cond.code yX5_refuses cX5_refuses 2 (some .int), Cond.fieldLink RX5 19 "PastAndClearModel" "refusals" "[I", Cond.methodLink RX5 39 yX5_remembers, Cond.instanceMethod yX5_remembers, Cond.selects RX5 yX5_remembers yX5_remembers, Cond.code yX5_remembers cX5_remembers 2 none, Cond.fieldLink RX5 31 "PastAndClearModel" "states" "I", Cond.fieldLink RX5 16 "PastAndClearModel" "past" "[I"]
def wsX5_veers : List Cond := .code yX5_veers cX5_veers 4 (some .int) :: ((wsX5_veers_r1 ++ wsX5_veers_r2) ++ wsX50)
def wsX5_sets_r1 : List Cond := [Cond.methodLink RX5 164 yX5_laysAside, Cond.instanceMethod yX5_laysAside, Cond.selects RX5 yX5_laysAside yX5_laysAside, Cond.initialized RX5, Cond.code yX5_laysAside cX5_laysAside 2 none, Cond.fieldLink RX5 13 "PastAndClearModel" "aside" "[I", Cond.fieldLink RX5 7 "PastAndClearModel" "now" "[I", Cond.methodLink RX5 184 yX5_putSetting, Cond.instanceMethod yX5_putSetting, Cond.selects RX5 yX5_putSetting yX5_putSetting, Cond.code yX5_putSetting cX5_putSetting 4 (some .int), Cond.methodLink RX5 42 yX5_in, Cond.static yX5_in, Cond.code yX5_in cX5_in 3 (some .boolean), Cond.methodLink RX5 171 yX5_finished, Cond.instanceMethod yX5_finished, Cond.selects RX5 yX5_finished yX5_finished, Cond.code yX5_finished cX5_finished 2 (some .int), Cond.methodLink RX5 35 yX5_refuses, Cond.instanceMethod yX5_refuses, Cond.selects RX5 yX5_refuses yX5_refuses, Cond.code yX5_refuses cX5_refuses 2 (some .int), Cond.fieldLink RX5 19 "PastAndClearModel" "refusals" "[I", Cond.methodLink RX5 39 yX5_remembers]
def wsX5_sets_r2 : List Cond := [Cond.instanceMethod yX5_remembers, Cond.selects RX5 yX5_remembers yX5_remembers, Cond.code yX5_remembers cX5_remembers 2 none, Cond.fieldLink RX5 31 "PastAndClearModel" "states" "I", Cond.fieldLink RX5 16 "PastAndClearModel" "past" "[I"]
def wsX5_sets : List Cond := .code yX5_sets cX5_sets 3 (some .int) :: ((wsX5_sets_r1 ++ wsX5_sets_r2) ++ wsX50)
def wsX5_steps_r1 : List Cond := [Cond.methodLink RX5 164 yX5_laysAside, Cond.instanceMethod yX5_laysAside, Cond.selects RX5 yX5_laysAside yX5_laysAside, Cond.initialized RX5, Cond.code yX5_laysAside cX5_laysAside 2 none, Cond.fieldLink RX5 13 "PastAndClearModel" "aside" "[I", Cond.fieldLink RX5 7 "PastAndClearModel" "now" "[I", Cond.methodLink RX5 187 yX5_putSteps, Cond.instanceMethod yX5_putSteps, Cond.selects RX5 yX5_putSteps yX5_putSteps, Cond.code yX5_putSteps cX5_putSteps 5 (some .int), Cond.methodLink RX5 42 yX5_in, Cond.static yX5_in, Cond.code yX5_in cX5_in 3 (some .boolean), Cond.methodLink RX5 53 yX5_shipOf, Cond.instanceMethod yX5_shipOf, Cond.selects RX5 yX5_shipOf yX5_shipOf, Cond.code yX5_shipOf cX5_shipOf 3 (some .int), Cond.methodLink RX5 145 yX5_eastSpeed, Cond.instanceMethod yX5_eastSpeed, Cond.selects RX5 yX5_eastSpeed yX5_eastSpeed, Cond.code yX5_eastSpeed cX5_eastSpeed 2 (some .int), Cond.methodLink RX5 64 yX5_eastOf, Cond.static yX5_eastOf]
def wsX5_steps_r2 : List Cond := [Cond.code yX5_eastOf cX5_eastOf 1 (some .int), Cond.methodLink RX5 50 yX5_northOf, Cond.static yX5_northOf, Cond.code yX5_northOf cX5_northOf 4 (some .int), Cond.methodLink RX5 148 yX5_northSpeed, Cond.instanceMethod yX5_northSpeed, Cond.selects RX5 yX5_northSpeed yX5_northSpeed, Cond.code yX5_northSpeed cX5_northSpeed 2 (some .int), Cond.methodLink RX5 122 yX5_isPlace, Cond.static yX5_isPlace, Cond.code yX5_isPlace cX5_isPlace 2 (some .boolean), Cond.methodLink RX5 132 yX5_tells, Cond.instanceMethod yX5_tells, Cond.selects RX5 yX5_tells yX5_tells, Cond.code yX5_tells cX5_tells 4 none, Cond.methodLink RX5 151 yX5_look, Cond.instanceMethod yX5_look, Cond.selects RX5 yX5_look yX5_look, Cond.code yX5_look cX5_look 5 (some .int), Cond.methodLink RX5 139 yX5_tableOf, Cond.instanceMethod yX5_tableOf, Cond.selects RX5 yX5_tableOf yX5_tableOf, Cond.code yX5_tableOf cX5_tableOf 5 (some .int), Cond.methodLink RX5 115 yX5_haveRisk]
def wsX5_steps_r3 : List Cond := [Cond.instanceMethod yX5_haveRisk, Cond.selects RX5 yX5_haveRisk yX5_haveRisk, Cond.code yX5_haveRisk cX5_haveRisk 3 (some .boolean), Cond.methodLink RX5 103 yX5_laysAsTheyAre, Cond.instanceMethod yX5_laysAsTheyAre, Cond.selects RX5 yX5_laysAsTheyAre yX5_laysAsTheyAre, Cond.code yX5_laysAsTheyAre cX5_laysAsTheyAre 3 none, Cond.methodLink RX5 73 yX5_lays, Cond.instanceMethod yX5_lays, Cond.selects RX5 yX5_lays yX5_lays, Cond.code yX5_lays cX5_lays 5 none, Cond.fieldLink RX5 57 "PastAndClearModel" "placeX" "J", Cond.fieldLink RX5 61 "PastAndClearModel" "placeY" "J", Cond.fieldLink RX5 67 "PastAndClearModel" "speedX" "J", Cond.fieldLink RX5 70 "PastAndClearModel" "speedY" "J", Cond.methodLink RX5 107 yX5_isRisk, Cond.instanceMethod yX5_isRisk, Cond.selects RX5 yX5_isRisk yX5_isRisk, Cond.code yX5_isRisk cX5_isRisk 3 (some .boolean), Cond.fieldLink RX5 90 "PastAndClearModel" "farAbove" "J", Cond.fieldLink RX5 93 "PastAndClearModel" "farBelow" "J", Cond.fieldLink RX5 81 "PastAndClearModel" "timeAbove" "J", Cond.fieldLink RX5 84 "PastAndClearModel" "timeBelow" "J", Cond.methodLink RX5 100 yX5_findsClosest]
def wsX5_steps_r4 : List Cond := [Cond.instanceMethod yX5_findsClosest, Cond.selects RX5 yX5_findsClosest yX5_findsClosest, Cond.code yX5_findsClosest cX5_findsClosest 7 none, Cond.methodLink RX5 77 yX5_towards, Cond.instanceMethod yX5_towards, Cond.selects RX5 yX5_towards yX5_towards, Cond.code yX5_towards cX5_towards 1 (some .long), Cond.methodLink RX5 87 yX5_squareAway, Cond.instanceMethod yX5_squareAway, Cond.selects RX5 yX5_squareAway yX5_squareAway, Cond.code yX5_squareAway cX5_squareAway 1 (some .long), Cond.methodLink RX5 96 yX5_common, Cond.static yX5_common, Cond.code yX5_common cX5_common 10 (some .long), Cond.methodLink RX5 119 yX5_sectorOf, Cond.instanceMethod yX5_sectorOf, Cond.selects RX5 yX5_sectorOf yX5_sectorOf, Cond.code yX5_sectorOf cX5_sectorOf 13 (some .int), Cond.constantLong RX5 111 (4), Cond.constantLong RX5 113 (-2), Cond.methodLink RX5 142 yX5_isPastAndClear, Cond.instanceMethod yX5_isPastAndClear, Cond.selects RX5 yX5_isPastAndClear yX5_isPastAndClear, Cond.code yX5_isPastAndClear cX5_isPastAndClear 4 (some .boolean)]
def wsX5_steps_r5 : List Cond := [Cond.methodLink RX5 171 yX5_finished, Cond.instanceMethod yX5_finished, Cond.selects RX5 yX5_finished yX5_finished, Cond.code yX5_finished cX5_finished 2 (some .int), Cond.methodLink RX5 35 yX5_refuses, Cond.instanceMethod yX5_refuses, Cond.selects RX5 yX5_refuses yX5_refuses, Cond.code yX5_refuses cX5_refuses 2 (some .int), Cond.fieldLink RX5 19 "PastAndClearModel" "refusals" "[I", Cond.methodLink RX5 39 yX5_remembers, Cond.instanceMethod yX5_remembers, Cond.selects RX5 yX5_remembers yX5_remembers, Cond.code yX5_remembers cX5_remembers 2 none, Cond.fieldLink RX5 31 "PastAndClearModel" "states" "I", Cond.fieldLink RX5 16 "PastAndClearModel" "past" "[I"]
def wsX5_steps : List Cond := .code yX5_steps cX5_steps 2 (some .int) :: ((wsX5_steps_r1 ++ (wsX5_steps_r2 ++ (wsX5_steps_r3 ++ (wsX5_steps_r4 ++ wsX5_steps_r5)))) ++ wsX50)
def wsX5_looks_r1 : List Cond := [Cond.methodLink RX5 164 yX5_laysAside, Cond.instanceMethod yX5_laysAside, Cond.selects RX5 yX5_laysAside yX5_laysAside, Cond.initialized RX5, Cond.code yX5_laysAside cX5_laysAside 2 none, Cond.fieldLink RX5 13 "PastAndClearModel" "aside" "[I", Cond.fieldLink RX5 7 "PastAndClearModel" "now" "[I", Cond.methodLink RX5 151 yX5_look, Cond.instanceMethod yX5_look, Cond.selects RX5 yX5_look yX5_look, Cond.code yX5_look cX5_look 5 (some .int), Cond.methodLink RX5 53 yX5_shipOf, Cond.instanceMethod yX5_shipOf, Cond.selects RX5 yX5_shipOf yX5_shipOf, Cond.code yX5_shipOf cX5_shipOf 3 (some .int), Cond.methodLink RX5 139 yX5_tableOf, Cond.instanceMethod yX5_tableOf, Cond.selects RX5 yX5_tableOf yX5_tableOf, Cond.code yX5_tableOf cX5_tableOf 5 (some .int), Cond.methodLink RX5 115 yX5_haveRisk, Cond.instanceMethod yX5_haveRisk, Cond.selects RX5 yX5_haveRisk yX5_haveRisk, Cond.code yX5_haveRisk cX5_haveRisk 3 (some .boolean), Cond.methodLink RX5 103 yX5_laysAsTheyAre]
def wsX5_looks_r2 : List Cond := [Cond.instanceMethod yX5_laysAsTheyAre, Cond.selects RX5 yX5_laysAsTheyAre yX5_laysAsTheyAre, Cond.code yX5_laysAsTheyAre cX5_laysAsTheyAre 3 none, Cond.methodLink RX5 73 yX5_lays, Cond.instanceMethod yX5_lays, Cond.selects RX5 yX5_lays yX5_lays, Cond.code yX5_lays cX5_lays 5 none, Cond.fieldLink RX5 57 "PastAndClearModel" "placeX" "J", Cond.fieldLink RX5 61 "PastAndClearModel" "placeY" "J", Cond.fieldLink RX5 67 "PastAndClearModel" "speedX" "J", Cond.fieldLink RX5 70 "PastAndClearModel" "speedY" "J", Cond.methodLink RX5 64 yX5_eastOf, Cond.static yX5_eastOf, Cond.code yX5_eastOf cX5_eastOf 1 (some .int), Cond.methodLink RX5 50 yX5_northOf, Cond.static yX5_northOf, Cond.code yX5_northOf cX5_northOf 4 (some .int), Cond.methodLink RX5 107 yX5_isRisk, Cond.instanceMethod yX5_isRisk, Cond.selects RX5 yX5_isRisk yX5_isRisk, Cond.code yX5_isRisk cX5_isRisk 3 (some .boolean), Cond.fieldLink RX5 90 "PastAndClearModel" "farAbove" "J", Cond.fieldLink RX5 93 "PastAndClearModel" "farBelow" "J", Cond.fieldLink RX5 81 "PastAndClearModel" "timeAbove" "J"]
def wsX5_looks_r3 : List Cond := [Cond.fieldLink RX5 84 "PastAndClearModel" "timeBelow" "J", Cond.methodLink RX5 100 yX5_findsClosest, Cond.instanceMethod yX5_findsClosest, Cond.selects RX5 yX5_findsClosest yX5_findsClosest, Cond.code yX5_findsClosest cX5_findsClosest 7 none, Cond.methodLink RX5 77 yX5_towards, Cond.instanceMethod yX5_towards, Cond.selects RX5 yX5_towards yX5_towards, Cond.code yX5_towards cX5_towards 1 (some .long), Cond.methodLink RX5 87 yX5_squareAway, Cond.instanceMethod yX5_squareAway, Cond.selects RX5 yX5_squareAway yX5_squareAway, Cond.code yX5_squareAway cX5_squareAway 1 (some .long), Cond.methodLink RX5 96 yX5_common, Cond.static yX5_common, Cond.code yX5_common cX5_common 10 (some .long), Cond.methodLink RX5 119 yX5_sectorOf, Cond.instanceMethod yX5_sectorOf, Cond.selects RX5 yX5_sectorOf yX5_sectorOf, Cond.code yX5_sectorOf cX5_sectorOf 13 (some .int), Cond.constantLong RX5 111 (4), Cond.constantLong RX5 113 (-2), Cond.methodLink RX5 142 yX5_isPastAndClear, Cond.instanceMethod yX5_isPastAndClear]
def wsX5_looks_r4 : List Cond := [Cond.selects RX5 yX5_isPastAndClear yX5_isPastAndClear, Cond.code yX5_isPastAndClear cX5_isPastAndClear 4 (some .boolean), Cond.methodLink RX5 132 yX5_tells, Cond.instanceMethod yX5_tells, Cond.selects RX5 yX5_tells yX5_tells, Cond.code yX5_tells cX5_tells 4 none, Cond.methodLink RX5 171 yX5_finished, Cond.instanceMethod yX5_finished, Cond.selects RX5 yX5_finished yX5_finished, Cond.code yX5_finished cX5_finished 2 (some .int), Cond.methodLink RX5 35 yX5_refuses, Cond.instanceMethod yX5_refuses, Cond.selects RX5 yX5_refuses yX5_refuses, Cond.code yX5_refuses cX5_refuses 2 (some .int), Cond.fieldLink RX5 19 "PastAndClearModel" "refusals" "[I", Cond.methodLink RX5 39 yX5_remembers, Cond.instanceMethod yX5_remembers, Cond.selects RX5 yX5_remembers yX5_remembers, Cond.code yX5_remembers cX5_remembers 2 none, Cond.fieldLink RX5 31 "PastAndClearModel" "states" "I", Cond.fieldLink RX5 16 "PastAndClearModel" "past" "[I"]
def wsX5_looks : List Cond := .code yX5_looks cX5_looks 1 (some .int) :: ((wsX5_looks_r1 ++ (wsX5_looks_r2 ++ (wsX5_looks_r3 ++ wsX5_looks_r4))) ++ wsX50)
def wsX5_obeys_r1 : List Cond := [Cond.methodLink RX5 164 yX5_laysAside, Cond.instanceMethod yX5_laysAside, Cond.selects RX5 yX5_laysAside yX5_laysAside, Cond.initialized RX5, Cond.code yX5_laysAside cX5_laysAside 2 none, Cond.fieldLink RX5 13 "PastAndClearModel" "aside" "[I", Cond.fieldLink RX5 7 "PastAndClearModel" "now" "[I", Cond.methodLink RX5 190 yX5_putObeyed, Cond.instanceMethod yX5_putObeyed, Cond.selects RX5 yX5_putObeyed yX5_putObeyed, Cond.code yX5_putObeyed cX5_putObeyed 2 (some .int), Cond.methodLink RX5 161 yX5_adviceFor, Cond.instanceMethod yX5_adviceFor, Cond.selects RX5 yX5_adviceFor yX5_adviceFor, Cond.code yX5_adviceFor cX5_adviceFor 5 (some .int), Cond.methodLink RX5 53 yX5_shipOf, Cond.instanceMethod yX5_shipOf, Cond.selects RX5 yX5_shipOf yX5_shipOf, Cond.code yX5_shipOf cX5_shipOf 3 (some .int), Cond.methodLink RX5 155 yX5_mustGiveWay, Cond.instanceMethod yX5_mustGiveWay, Cond.selects RX5 yX5_mustGiveWay yX5_mustGiveWay, Cond.code yX5_mustGiveWay cX5_mustGiveWay 4 (some .boolean), Cond.methodLink RX5 139 yX5_tableOf]
def wsX5_obeys_r2 : List Cond := [Cond.instanceMethod yX5_tableOf, Cond.selects RX5 yX5_tableOf yX5_tableOf, Cond.code yX5_tableOf cX5_tableOf 5 (some .int), Cond.methodLink RX5 115 yX5_haveRisk, Cond.instanceMethod yX5_haveRisk, Cond.selects RX5 yX5_haveRisk yX5_haveRisk, Cond.code yX5_haveRisk cX5_haveRisk 3 (some .boolean), Cond.methodLink RX5 103 yX5_laysAsTheyAre, Cond.instanceMethod yX5_laysAsTheyAre, Cond.selects RX5 yX5_laysAsTheyAre yX5_laysAsTheyAre, Cond.code yX5_laysAsTheyAre cX5_laysAsTheyAre 3 none, Cond.methodLink RX5 73 yX5_lays, Cond.instanceMethod yX5_lays, Cond.selects RX5 yX5_lays yX5_lays, Cond.code yX5_lays cX5_lays 5 none, Cond.fieldLink RX5 57 "PastAndClearModel" "placeX" "J", Cond.fieldLink RX5 61 "PastAndClearModel" "placeY" "J", Cond.fieldLink RX5 67 "PastAndClearModel" "speedX" "J", Cond.fieldLink RX5 70 "PastAndClearModel" "speedY" "J", Cond.methodLink RX5 64 yX5_eastOf, Cond.static yX5_eastOf, Cond.code yX5_eastOf cX5_eastOf 1 (some .int), Cond.methodLink RX5 50 yX5_northOf, Cond.static yX5_northOf]
def wsX5_obeys_r3 : List Cond := [Cond.code yX5_northOf cX5_northOf 4 (some .int), Cond.methodLink RX5 107 yX5_isRisk, Cond.instanceMethod yX5_isRisk, Cond.selects RX5 yX5_isRisk yX5_isRisk, Cond.code yX5_isRisk cX5_isRisk 3 (some .boolean), Cond.fieldLink RX5 90 "PastAndClearModel" "farAbove" "J", Cond.fieldLink RX5 93 "PastAndClearModel" "farBelow" "J", Cond.fieldLink RX5 81 "PastAndClearModel" "timeAbove" "J", Cond.fieldLink RX5 84 "PastAndClearModel" "timeBelow" "J", Cond.methodLink RX5 100 yX5_findsClosest, Cond.instanceMethod yX5_findsClosest, Cond.selects RX5 yX5_findsClosest yX5_findsClosest, Cond.code yX5_findsClosest cX5_findsClosest 7 none, Cond.methodLink RX5 77 yX5_towards, Cond.instanceMethod yX5_towards, Cond.selects RX5 yX5_towards yX5_towards, Cond.code yX5_towards cX5_towards 1 (some .long), Cond.methodLink RX5 87 yX5_squareAway, Cond.instanceMethod yX5_squareAway, Cond.selects RX5 yX5_squareAway yX5_squareAway, Cond.code yX5_squareAway cX5_squareAway 1 (some .long), Cond.methodLink RX5 96 yX5_common, Cond.static yX5_common, Cond.code yX5_common cX5_common 10 (some .long)]
def wsX5_obeys_r4 : List Cond := [Cond.methodLink RX5 119 yX5_sectorOf, Cond.instanceMethod yX5_sectorOf, Cond.selects RX5 yX5_sectorOf yX5_sectorOf, Cond.code yX5_sectorOf cX5_sectorOf 13 (some .int), Cond.constantLong RX5 111 (4), Cond.constantLong RX5 113 (-2), Cond.methodLink RX5 158 yX5_isClear, Cond.instanceMethod yX5_isClear, Cond.selects RX5 yX5_isClear yX5_isClear, Cond.code yX5_isClear cX5_isClear 6 (some .boolean), Cond.methodLink RX5 132 yX5_tells, Cond.instanceMethod yX5_tells, Cond.selects RX5 yX5_tells yX5_tells, Cond.code yX5_tells cX5_tells 4 none, Cond.methodLink RX5 171 yX5_finished, Cond.instanceMethod yX5_finished, Cond.selects RX5 yX5_finished yX5_finished, Cond.code yX5_finished cX5_finished 2 (some .int), Cond.methodLink RX5 35 yX5_refuses, Cond.instanceMethod yX5_refuses, Cond.selects RX5 yX5_refuses yX5_refuses, Cond.code yX5_refuses cX5_refuses 2 (some .int), Cond.fieldLink RX5 19 "PastAndClearModel" "refusals" "[I", Cond.methodLink RX5 39 yX5_remembers]
def wsX5_obeys_r5 : List Cond := [Cond.instanceMethod yX5_remembers, Cond.selects RX5 yX5_remembers yX5_remembers, Cond.code yX5_remembers cX5_remembers 2 none, Cond.fieldLink RX5 31 "PastAndClearModel" "states" "I", Cond.fieldLink RX5 16 "PastAndClearModel" "past" "[I"]
def wsX5_obeys : List Cond := .code yX5_obeys cX5_obeys 1 (some .int) :: ((wsX5_obeys_r1 ++ (wsX5_obeys_r2 ++ (wsX5_obeys_r3 ++ (wsX5_obeys_r4 ++ wsX5_obeys_r5)))) ++ wsX50)
def wsX5_told0 : List Cond := .code yX5_told0 cX5_told0 3 (some .int) :: ([.methodLink RX5 53 yX5_shipOf, .instanceMethod yX5_shipOf, .selects RX5 yX5_shipOf yX5_shipOf, .initialized RX5, .code yX5_shipOf cX5_shipOf 3 (some .int), .fieldLink RX5 7 "PastAndClearModel" "now" "[I", .methodLink RX5 145 yX5_eastSpeed, .instanceMethod yX5_eastSpeed, .selects RX5 yX5_eastSpeed yX5_eastSpeed, .code yX5_eastSpeed cX5_eastSpeed 2 (some .int), .methodLink RX5 64 yX5_eastOf, .static yX5_eastOf, .code yX5_eastOf cX5_eastOf 1 (some .int), .methodLink RX5 50 yX5_northOf, .static yX5_northOf, .code yX5_northOf cX5_northOf 4 (some .int), .methodLink RX5 148 yX5_northSpeed, .instanceMethod yX5_northSpeed, .selects RX5 yX5_northSpeed yX5_northSpeed, .code yX5_northSpeed cX5_northSpeed 2 (some .int)] ++ wsX50)
def wsX5_of_r1 : List Cond := [Cond.methodLink RX5 46 yX5_isShip, Cond.instanceMethod yX5_isShip, Cond.selects RX5 yX5_isShip yX5_isShip, Cond.initialized RX5, Cond.code yX5_isShip cX5_isShip 2 (some .boolean), Cond.fieldLink RX5 7 "PastAndClearModel" "now" "[I", Cond.methodLink RX5 42 yX5_in, Cond.static yX5_in, Cond.code yX5_in cX5_in 3 (some .boolean), Cond.methodLink RX5 193 yX5_told0, Cond.instanceMethod yX5_told0, Cond.selects RX5 yX5_told0 yX5_told0, Cond.code yX5_told0 cX5_told0 3 (some .int), Cond.methodLink RX5 53 yX5_shipOf, Cond.instanceMethod yX5_shipOf, Cond.selects RX5 yX5_shipOf yX5_shipOf, Cond.code yX5_shipOf cX5_shipOf 3 (some .int), Cond.methodLink RX5 145 yX5_eastSpeed, Cond.instanceMethod yX5_eastSpeed, Cond.selects RX5 yX5_eastSpeed yX5_eastSpeed, Cond.code yX5_eastSpeed cX5_eastSpeed 2 (some .int), Cond.methodLink RX5 64 yX5_eastOf, Cond.static yX5_eastOf, Cond.code yX5_eastOf cX5_eastOf 1 (some .int)]
def wsX5_of_r2 : List Cond := [Cond.methodLink RX5 50 yX5_northOf, Cond.static yX5_northOf, Cond.code yX5_northOf cX5_northOf 4 (some .int), Cond.methodLink RX5 148 yX5_northSpeed, Cond.instanceMethod yX5_northSpeed, Cond.selects RX5 yX5_northSpeed yX5_northSpeed, Cond.code yX5_northSpeed cX5_northSpeed 2 (some .int), Cond.methodLink RX5 35 yX5_refuses, Cond.instanceMethod yX5_refuses, Cond.selects RX5 yX5_refuses yX5_refuses, Cond.code yX5_refuses cX5_refuses 2 (some .int), Cond.fieldLink RX5 19 "PastAndClearModel" "refusals" "[I"]
def wsX5_of : List Cond := .code yX5_of cX5_of 3 (some .int) :: ((wsX5_of_r1 ++ wsX5_of_r2) ++ wsX50)
def wsX5_areTwo : List Cond := .code yX5_areTwo cX5_areTwo 3 (some .boolean) :: ([.methodLink RX5 46 yX5_isShip, .instanceMethod yX5_isShip, .selects RX5 yX5_isShip yX5_isShip, .initialized RX5, .code yX5_isShip cX5_isShip 2 (some .boolean), .fieldLink RX5 7 "PastAndClearModel" "now" "[I", .methodLink RX5 42 yX5_in, .static yX5_in, .code yX5_in cX5_in 3 (some .boolean)] ++ wsX50)
def wsX5_closestOf_r1 : List Cond := [Cond.fieldLink RX5 81 "PastAndClearModel" "timeAbove" "J", Cond.fieldLink RX5 84 "PastAndClearModel" "timeBelow" "J", Cond.fieldLink RX5 90 "PastAndClearModel" "farAbove" "J", Cond.fieldLink RX5 93 "PastAndClearModel" "farBelow" "J", Cond.methodLink RX5 103 yX5_laysAsTheyAre, Cond.instanceMethod yX5_laysAsTheyAre, Cond.selects RX5 yX5_laysAsTheyAre yX5_laysAsTheyAre, Cond.initialized RX5, Cond.code yX5_laysAsTheyAre cX5_laysAsTheyAre 3 none, Cond.methodLink RX5 53 yX5_shipOf, Cond.instanceMethod yX5_shipOf, Cond.selects RX5 yX5_shipOf yX5_shipOf, Cond.code yX5_shipOf cX5_shipOf 3 (some .int), Cond.fieldLink RX5 7 "PastAndClearModel" "now" "[I", Cond.methodLink RX5 73 yX5_lays, Cond.instanceMethod yX5_lays, Cond.selects RX5 yX5_lays yX5_lays, Cond.code yX5_lays cX5_lays 5 none, Cond.fieldLink RX5 57 "PastAndClearModel" "placeX" "J", Cond.fieldLink RX5 61 "PastAndClearModel" "placeY" "J", Cond.fieldLink RX5 67 "PastAndClearModel" "speedX" "J", Cond.fieldLink RX5 70 "PastAndClearModel" "speedY" "J", Cond.methodLink RX5 64 yX5_eastOf, Cond.static yX5_eastOf]
def wsX5_closestOf_r2 : List Cond := [Cond.code yX5_eastOf cX5_eastOf 1 (some .int), Cond.methodLink RX5 50 yX5_northOf, Cond.static yX5_northOf, Cond.code yX5_northOf cX5_northOf 4 (some .int), Cond.methodLink RX5 100 yX5_findsClosest, Cond.instanceMethod yX5_findsClosest, Cond.selects RX5 yX5_findsClosest yX5_findsClosest, Cond.code yX5_findsClosest cX5_findsClosest 7 none, Cond.methodLink RX5 77 yX5_towards, Cond.instanceMethod yX5_towards, Cond.selects RX5 yX5_towards yX5_towards, Cond.code yX5_towards cX5_towards 1 (some .long), Cond.methodLink RX5 87 yX5_squareAway, Cond.instanceMethod yX5_squareAway, Cond.selects RX5 yX5_squareAway yX5_squareAway, Cond.code yX5_squareAway cX5_squareAway 1 (some .long), Cond.methodLink RX5 96 yX5_common, Cond.static yX5_common, Cond.code yX5_common cX5_common 10 (some .long)]
def wsX5_closestOf : List Cond := .code yX5_closestOf cX5_closestOf 4 (some .long) :: ((wsX5_closestOf_r1 ++ wsX5_closestOf_r2) ++ wsX50)
def wsX5_closest_r1 : List Cond := [Cond.methodLink RX5 196 yX5_areTwo, Cond.instanceMethod yX5_areTwo, Cond.selects RX5 yX5_areTwo yX5_areTwo, Cond.initialized RX5, Cond.code yX5_areTwo cX5_areTwo 3 (some .boolean), Cond.methodLink RX5 46 yX5_isShip, Cond.instanceMethod yX5_isShip, Cond.selects RX5 yX5_isShip yX5_isShip, Cond.code yX5_isShip cX5_isShip 2 (some .boolean), Cond.fieldLink RX5 7 "PastAndClearModel" "now" "[I", Cond.methodLink RX5 42 yX5_in, Cond.static yX5_in, Cond.code yX5_in cX5_in 3 (some .boolean), Cond.methodLink RX5 199 yX5_closestOf, Cond.instanceMethod yX5_closestOf, Cond.selects RX5 yX5_closestOf yX5_closestOf, Cond.code yX5_closestOf cX5_closestOf 4 (some .long), Cond.fieldLink RX5 81 "PastAndClearModel" "timeAbove" "J", Cond.fieldLink RX5 84 "PastAndClearModel" "timeBelow" "J", Cond.fieldLink RX5 90 "PastAndClearModel" "farAbove" "J", Cond.fieldLink RX5 93 "PastAndClearModel" "farBelow" "J", Cond.methodLink RX5 103 yX5_laysAsTheyAre, Cond.instanceMethod yX5_laysAsTheyAre, Cond.selects RX5 yX5_laysAsTheyAre yX5_laysAsTheyAre]
def wsX5_closest_r2 : List Cond := [Cond.code yX5_laysAsTheyAre cX5_laysAsTheyAre 3 none, Cond.methodLink RX5 53 yX5_shipOf, Cond.instanceMethod yX5_shipOf, Cond.selects RX5 yX5_shipOf yX5_shipOf, Cond.code yX5_shipOf cX5_shipOf 3 (some .int), Cond.methodLink RX5 73 yX5_lays, Cond.instanceMethod yX5_lays, Cond.selects RX5 yX5_lays yX5_lays, Cond.code yX5_lays cX5_lays 5 none, Cond.fieldLink RX5 57 "PastAndClearModel" "placeX" "J", Cond.fieldLink RX5 61 "PastAndClearModel" "placeY" "J", Cond.fieldLink RX5 67 "PastAndClearModel" "speedX" "J", Cond.fieldLink RX5 70 "PastAndClearModel" "speedY" "J", Cond.methodLink RX5 64 yX5_eastOf, Cond.static yX5_eastOf, Cond.code yX5_eastOf cX5_eastOf 1 (some .int), Cond.methodLink RX5 50 yX5_northOf, Cond.static yX5_northOf, Cond.code yX5_northOf cX5_northOf 4 (some .int), Cond.methodLink RX5 100 yX5_findsClosest, Cond.instanceMethod yX5_findsClosest, Cond.selects RX5 yX5_findsClosest yX5_findsClosest, Cond.code yX5_findsClosest cX5_findsClosest 7 none, Cond.methodLink RX5 77 yX5_towards]
def wsX5_closest_r3 : List Cond := [Cond.instanceMethod yX5_towards, Cond.selects RX5 yX5_towards yX5_towards, Cond.code yX5_towards cX5_towards 1 (some .long), Cond.methodLink RX5 87 yX5_squareAway, Cond.instanceMethod yX5_squareAway, Cond.selects RX5 yX5_squareAway yX5_squareAway, Cond.code yX5_squareAway cX5_squareAway 1 (some .long), Cond.methodLink RX5 96 yX5_common, Cond.static yX5_common, Cond.code yX5_common cX5_common 10 (some .long), Cond.methodLink RX5 35 yX5_refuses, Cond.instanceMethod yX5_refuses, Cond.selects RX5 yX5_refuses yX5_refuses, Cond.code yX5_refuses cX5_refuses 2 (some .int), Cond.fieldLink RX5 19 "PastAndClearModel" "refusals" "[I"]
def wsX5_closest : List Cond := .code yX5_closest cX5_closest 4 (some .long) :: ((wsX5_closest_r1 ++ (wsX5_closest_r2 ++ wsX5_closest_r3)) ++ wsX50)
def wsX5_risk_r1 : List Cond := [Cond.methodLink RX5 196 yX5_areTwo, Cond.instanceMethod yX5_areTwo, Cond.selects RX5 yX5_areTwo yX5_areTwo, Cond.initialized RX5, Cond.code yX5_areTwo cX5_areTwo 3 (some .boolean), Cond.methodLink RX5 46 yX5_isShip, Cond.instanceMethod yX5_isShip, Cond.selects RX5 yX5_isShip yX5_isShip, Cond.code yX5_isShip cX5_isShip 2 (some .boolean), Cond.fieldLink RX5 7 "PastAndClearModel" "now" "[I", Cond.methodLink RX5 42 yX5_in, Cond.static yX5_in, Cond.code yX5_in cX5_in 3 (some .boolean), Cond.methodLink RX5 115 yX5_haveRisk, Cond.instanceMethod yX5_haveRisk, Cond.selects RX5 yX5_haveRisk yX5_haveRisk, Cond.code yX5_haveRisk cX5_haveRisk 3 (some .boolean), Cond.methodLink RX5 103 yX5_laysAsTheyAre, Cond.instanceMethod yX5_laysAsTheyAre, Cond.selects RX5 yX5_laysAsTheyAre yX5_laysAsTheyAre, Cond.code yX5_laysAsTheyAre cX5_laysAsTheyAre 3 none, Cond.methodLink RX5 53 yX5_shipOf, Cond.instanceMethod yX5_shipOf, Cond.selects RX5 yX5_shipOf yX5_shipOf]
def wsX5_risk_r2 : List Cond := [Cond.code yX5_shipOf cX5_shipOf 3 (some .int), Cond.methodLink RX5 73 yX5_lays, Cond.instanceMethod yX5_lays, Cond.selects RX5 yX5_lays yX5_lays, Cond.code yX5_lays cX5_lays 5 none, Cond.fieldLink RX5 57 "PastAndClearModel" "placeX" "J", Cond.fieldLink RX5 61 "PastAndClearModel" "placeY" "J", Cond.fieldLink RX5 67 "PastAndClearModel" "speedX" "J", Cond.fieldLink RX5 70 "PastAndClearModel" "speedY" "J", Cond.methodLink RX5 64 yX5_eastOf, Cond.static yX5_eastOf, Cond.code yX5_eastOf cX5_eastOf 1 (some .int), Cond.methodLink RX5 50 yX5_northOf, Cond.static yX5_northOf, Cond.code yX5_northOf cX5_northOf 4 (some .int), Cond.methodLink RX5 107 yX5_isRisk, Cond.instanceMethod yX5_isRisk, Cond.selects RX5 yX5_isRisk yX5_isRisk, Cond.code yX5_isRisk cX5_isRisk 3 (some .boolean), Cond.fieldLink RX5 90 "PastAndClearModel" "farAbove" "J", Cond.fieldLink RX5 93 "PastAndClearModel" "farBelow" "J", Cond.fieldLink RX5 81 "PastAndClearModel" "timeAbove" "J", Cond.fieldLink RX5 84 "PastAndClearModel" "timeBelow" "J", Cond.methodLink RX5 100 yX5_findsClosest]
def wsX5_risk_r3 : List Cond := [Cond.instanceMethod yX5_findsClosest, Cond.selects RX5 yX5_findsClosest yX5_findsClosest, Cond.code yX5_findsClosest cX5_findsClosest 7 none, Cond.methodLink RX5 77 yX5_towards, Cond.instanceMethod yX5_towards, Cond.selects RX5 yX5_towards yX5_towards, Cond.code yX5_towards cX5_towards 1 (some .long), Cond.methodLink RX5 87 yX5_squareAway, Cond.instanceMethod yX5_squareAway, Cond.selects RX5 yX5_squareAway yX5_squareAway, Cond.code yX5_squareAway cX5_squareAway 1 (some .long), Cond.methodLink RX5 96 yX5_common, Cond.static yX5_common, Cond.code yX5_common cX5_common 10 (some .long), Cond.methodLink RX5 35 yX5_refuses, Cond.instanceMethod yX5_refuses, Cond.selects RX5 yX5_refuses yX5_refuses, Cond.code yX5_refuses cX5_refuses 2 (some .int), Cond.fieldLink RX5 19 "PastAndClearModel" "refusals" "[I"]
def wsX5_risk : List Cond := .code yX5_risk cX5_risk 3 (some .int) :: ((wsX5_risk_r1 ++ (wsX5_risk_r2 ++ wsX5_risk_r3)) ++ wsX50)
def wsX5_sector_r1 : List Cond := [Cond.methodLink RX5 196 yX5_areTwo, Cond.instanceMethod yX5_areTwo, Cond.selects RX5 yX5_areTwo yX5_areTwo, Cond.initialized RX5, Cond.code yX5_areTwo cX5_areTwo 3 (some .boolean), Cond.methodLink RX5 46 yX5_isShip, Cond.instanceMethod yX5_isShip, Cond.selects RX5 yX5_isShip yX5_isShip, Cond.code yX5_isShip cX5_isShip 2 (some .boolean), Cond.fieldLink RX5 7 "PastAndClearModel" "now" "[I", Cond.methodLink RX5 42 yX5_in, Cond.static yX5_in, Cond.code yX5_in cX5_in 3 (some .boolean), Cond.methodLink RX5 119 yX5_sectorOf, Cond.instanceMethod yX5_sectorOf, Cond.selects RX5 yX5_sectorOf yX5_sectorOf, Cond.code yX5_sectorOf cX5_sectorOf 13 (some .int), Cond.fieldLink RX5 57 "PastAndClearModel" "placeX" "J", Cond.fieldLink RX5 61 "PastAndClearModel" "placeY" "J", Cond.constantLong RX5 111 (4), Cond.constantLong RX5 113 (-2), Cond.methodLink RX5 103 yX5_laysAsTheyAre, Cond.instanceMethod yX5_laysAsTheyAre, Cond.selects RX5 yX5_laysAsTheyAre yX5_laysAsTheyAre]
def wsX5_sector_r2 : List Cond := [Cond.code yX5_laysAsTheyAre cX5_laysAsTheyAre 3 none, Cond.methodLink RX5 53 yX5_shipOf, Cond.instanceMethod yX5_shipOf, Cond.selects RX5 yX5_shipOf yX5_shipOf, Cond.code yX5_shipOf cX5_shipOf 3 (some .int), Cond.methodLink RX5 73 yX5_lays, Cond.instanceMethod yX5_lays, Cond.selects RX5 yX5_lays yX5_lays, Cond.code yX5_lays cX5_lays 5 none, Cond.fieldLink RX5 67 "PastAndClearModel" "speedX" "J", Cond.fieldLink RX5 70 "PastAndClearModel" "speedY" "J", Cond.methodLink RX5 64 yX5_eastOf, Cond.static yX5_eastOf, Cond.code yX5_eastOf cX5_eastOf 1 (some .int), Cond.methodLink RX5 50 yX5_northOf, Cond.static yX5_northOf, Cond.code yX5_northOf cX5_northOf 4 (some .int), Cond.methodLink RX5 87 yX5_squareAway, Cond.instanceMethod yX5_squareAway, Cond.selects RX5 yX5_squareAway yX5_squareAway, Cond.code yX5_squareAway cX5_squareAway 1 (some .long), Cond.methodLink RX5 35 yX5_refuses, Cond.instanceMethod yX5_refuses, Cond.selects RX5 yX5_refuses yX5_refuses]
def wsX5_sector_r3 : List Cond := [Cond.code yX5_refuses cX5_refuses 2 (some .int), Cond.fieldLink RX5 19 "PastAndClearModel" "refusals" "[I"]
def wsX5_sector : List Cond := .code yX5_sector cX5_sector 3 (some .int) :: ((wsX5_sector_r1 ++ (wsX5_sector_r2 ++ wsX5_sector_r3)) ++ wsX50)
def wsX5_table_r1 : List Cond := [Cond.methodLink RX5 196 yX5_areTwo, Cond.instanceMethod yX5_areTwo, Cond.selects RX5 yX5_areTwo yX5_areTwo, Cond.initialized RX5, Cond.code yX5_areTwo cX5_areTwo 3 (some .boolean), Cond.methodLink RX5 46 yX5_isShip, Cond.instanceMethod yX5_isShip, Cond.selects RX5 yX5_isShip yX5_isShip, Cond.code yX5_isShip cX5_isShip 2 (some .boolean), Cond.fieldLink RX5 7 "PastAndClearModel" "now" "[I", Cond.methodLink RX5 42 yX5_in, Cond.static yX5_in, Cond.code yX5_in cX5_in 3 (some .boolean), Cond.methodLink RX5 139 yX5_tableOf, Cond.instanceMethod yX5_tableOf, Cond.selects RX5 yX5_tableOf yX5_tableOf, Cond.code yX5_tableOf cX5_tableOf 5 (some .int), Cond.methodLink RX5 115 yX5_haveRisk, Cond.instanceMethod yX5_haveRisk, Cond.selects RX5 yX5_haveRisk yX5_haveRisk, Cond.code yX5_haveRisk cX5_haveRisk 3 (some .boolean), Cond.methodLink RX5 103 yX5_laysAsTheyAre, Cond.instanceMethod yX5_laysAsTheyAre, Cond.selects RX5 yX5_laysAsTheyAre yX5_laysAsTheyAre]
def wsX5_table_r2 : List Cond := [Cond.code yX5_laysAsTheyAre cX5_laysAsTheyAre 3 none, Cond.methodLink RX5 53 yX5_shipOf, Cond.instanceMethod yX5_shipOf, Cond.selects RX5 yX5_shipOf yX5_shipOf, Cond.code yX5_shipOf cX5_shipOf 3 (some .int), Cond.methodLink RX5 73 yX5_lays, Cond.instanceMethod yX5_lays, Cond.selects RX5 yX5_lays yX5_lays, Cond.code yX5_lays cX5_lays 5 none, Cond.fieldLink RX5 57 "PastAndClearModel" "placeX" "J", Cond.fieldLink RX5 61 "PastAndClearModel" "placeY" "J", Cond.fieldLink RX5 67 "PastAndClearModel" "speedX" "J", Cond.fieldLink RX5 70 "PastAndClearModel" "speedY" "J", Cond.methodLink RX5 64 yX5_eastOf, Cond.static yX5_eastOf, Cond.code yX5_eastOf cX5_eastOf 1 (some .int), Cond.methodLink RX5 50 yX5_northOf, Cond.static yX5_northOf, Cond.code yX5_northOf cX5_northOf 4 (some .int), Cond.methodLink RX5 107 yX5_isRisk, Cond.instanceMethod yX5_isRisk, Cond.selects RX5 yX5_isRisk yX5_isRisk, Cond.code yX5_isRisk cX5_isRisk 3 (some .boolean), Cond.fieldLink RX5 90 "PastAndClearModel" "farAbove" "J"]
def wsX5_table_r3 : List Cond := [Cond.fieldLink RX5 93 "PastAndClearModel" "farBelow" "J", Cond.fieldLink RX5 81 "PastAndClearModel" "timeAbove" "J", Cond.fieldLink RX5 84 "PastAndClearModel" "timeBelow" "J", Cond.methodLink RX5 100 yX5_findsClosest, Cond.instanceMethod yX5_findsClosest, Cond.selects RX5 yX5_findsClosest yX5_findsClosest, Cond.code yX5_findsClosest cX5_findsClosest 7 none, Cond.methodLink RX5 77 yX5_towards, Cond.instanceMethod yX5_towards, Cond.selects RX5 yX5_towards yX5_towards, Cond.code yX5_towards cX5_towards 1 (some .long), Cond.methodLink RX5 87 yX5_squareAway, Cond.instanceMethod yX5_squareAway, Cond.selects RX5 yX5_squareAway yX5_squareAway, Cond.code yX5_squareAway cX5_squareAway 1 (some .long), Cond.methodLink RX5 96 yX5_common, Cond.static yX5_common, Cond.code yX5_common cX5_common 10 (some .long), Cond.methodLink RX5 119 yX5_sectorOf, Cond.instanceMethod yX5_sectorOf, Cond.selects RX5 yX5_sectorOf yX5_sectorOf, Cond.code yX5_sectorOf cX5_sectorOf 13 (some .int), Cond.constantLong RX5 111 (4), Cond.constantLong RX5 113 (-2)]
def wsX5_table_r4 : List Cond := [Cond.methodLink RX5 35 yX5_refuses, Cond.instanceMethod yX5_refuses, Cond.selects RX5 yX5_refuses yX5_refuses, Cond.code yX5_refuses cX5_refuses 2 (some .int), Cond.fieldLink RX5 19 "PastAndClearModel" "refusals" "[I"]
def wsX5_table : List Cond := .code yX5_table cX5_table 3 (some .int) :: ((wsX5_table_r1 ++ (wsX5_table_r2 ++ (wsX5_table_r3 ++ wsX5_table_r4))) ++ wsX50)
def wsX5_duty : List Cond := .code yX5_duty cX5_duty 2 (some .int) :: ([.methodLink RX5 136 yX5_isOther, .instanceMethod yX5_isOther, .selects RX5 yX5_isOther yX5_isOther, .initialized RX5, .code yX5_isOther cX5_isOther 2 (some .boolean), .methodLink RX5 46 yX5_isShip, .instanceMethod yX5_isShip, .selects RX5 yX5_isShip yX5_isShip, .code yX5_isShip cX5_isShip 2 (some .boolean), .fieldLink RX5 7 "PastAndClearModel" "now" "[I", .methodLink RX5 42 yX5_in, .static yX5_in, .code yX5_in cX5_in 3 (some .boolean), .methodLink RX5 53 yX5_shipOf, .instanceMethod yX5_shipOf, .selects RX5 yX5_shipOf yX5_shipOf, .code yX5_shipOf cX5_shipOf 3 (some .int), .methodLink RX5 35 yX5_refuses, .instanceMethod yX5_refuses, .selects RX5 yX5_refuses yX5_refuses, .code yX5_refuses cX5_refuses 2 (some .int), .fieldLink RX5 19 "PastAndClearModel" "refusals" "[I"] ++ wsX50)
def wsX5_worst_r1 : List Cond := [Cond.fieldLink RX5 7 "PastAndClearModel" "now" "[I", Cond.fieldLink RX5 81 "PastAndClearModel" "timeAbove" "J", Cond.fieldLink RX5 84 "PastAndClearModel" "timeBelow" "J", Cond.fieldLink RX5 90 "PastAndClearModel" "farAbove" "J", Cond.fieldLink RX5 93 "PastAndClearModel" "farBelow" "J", Cond.methodLink RX5 115 yX5_haveRisk, Cond.instanceMethod yX5_haveRisk, Cond.selects RX5 yX5_haveRisk yX5_haveRisk, Cond.initialized RX5, Cond.code yX5_haveRisk cX5_haveRisk 3 (some .boolean), Cond.methodLink RX5 103 yX5_laysAsTheyAre, Cond.instanceMethod yX5_laysAsTheyAre, Cond.selects RX5 yX5_laysAsTheyAre yX5_laysAsTheyAre, Cond.code yX5_laysAsTheyAre cX5_laysAsTheyAre 3 none, Cond.methodLink RX5 53 yX5_shipOf, Cond.instanceMethod yX5_shipOf, Cond.selects RX5 yX5_shipOf yX5_shipOf, Cond.code yX5_shipOf cX5_shipOf 3 (some .int), Cond.methodLink RX5 73 yX5_lays, Cond.instanceMethod yX5_lays, Cond.selects RX5 yX5_lays yX5_lays, Cond.code yX5_lays cX5_lays 5 none, Cond.fieldLink RX5 57 "PastAndClearModel" "placeX" "J", Cond.fieldLink RX5 61 "PastAndClearModel" "placeY" "J"]
def wsX5_worst_r2 : List Cond := [Cond.fieldLink RX5 67 "PastAndClearModel" "speedX" "J", Cond.fieldLink RX5 70 "PastAndClearModel" "speedY" "J", Cond.methodLink RX5 64 yX5_eastOf, Cond.static yX5_eastOf, Cond.code yX5_eastOf cX5_eastOf 1 (some .int), Cond.methodLink RX5 50 yX5_northOf, Cond.static yX5_northOf, Cond.code yX5_northOf cX5_northOf 4 (some .int), Cond.methodLink RX5 107 yX5_isRisk, Cond.instanceMethod yX5_isRisk, Cond.selects RX5 yX5_isRisk yX5_isRisk, Cond.code yX5_isRisk cX5_isRisk 3 (some .boolean), Cond.methodLink RX5 100 yX5_findsClosest, Cond.instanceMethod yX5_findsClosest, Cond.selects RX5 yX5_findsClosest yX5_findsClosest, Cond.code yX5_findsClosest cX5_findsClosest 7 none, Cond.methodLink RX5 77 yX5_towards, Cond.instanceMethod yX5_towards, Cond.selects RX5 yX5_towards yX5_towards, Cond.code yX5_towards cX5_towards 1 (some .long), Cond.methodLink RX5 87 yX5_squareAway, Cond.instanceMethod yX5_squareAway, Cond.selects RX5 yX5_squareAway yX5_squareAway, Cond.code yX5_squareAway cX5_squareAway 1 (some .long)]
def wsX5_worst_r3 : List Cond := [Cond.methodLink RX5 96 yX5_common, Cond.static yX5_common, Cond.code yX5_common cX5_common 10 (some .long)]
def wsX5_worst : List Cond := .code yX5_worst cX5_worst 15 (some .int) :: ((wsX5_worst_r1 ++ (wsX5_worst_r2 ++ wsX5_worst_r3)) ++ wsX50)
def wsX5_clear_r1 : List Cond := [Cond.methodLink RX5 46 yX5_isShip, Cond.instanceMethod yX5_isShip, Cond.selects RX5 yX5_isShip yX5_isShip, Cond.initialized RX5, Cond.code yX5_isShip cX5_isShip 2 (some .boolean), Cond.fieldLink RX5 7 "PastAndClearModel" "now" "[I", Cond.methodLink RX5 42 yX5_in, Cond.static yX5_in, Cond.code yX5_in cX5_in 3 (some .boolean), Cond.methodLink RX5 125 yX5_isCourse, Cond.static yX5_isCourse, Cond.code yX5_isCourse cX5_isCourse 2 (some .boolean), Cond.methodLink RX5 158 yX5_isClear, Cond.instanceMethod yX5_isClear, Cond.selects RX5 yX5_isClear yX5_isClear, Cond.code yX5_isClear cX5_isClear 6 (some .boolean), Cond.methodLink RX5 73 yX5_lays, Cond.instanceMethod yX5_lays, Cond.selects RX5 yX5_lays yX5_lays, Cond.code yX5_lays cX5_lays 5 none, Cond.fieldLink RX5 57 "PastAndClearModel" "placeX" "J", Cond.fieldLink RX5 61 "PastAndClearModel" "placeY" "J", Cond.fieldLink RX5 67 "PastAndClearModel" "speedX" "J", Cond.fieldLink RX5 70 "PastAndClearModel" "speedY" "J"]
def wsX5_clear_r2 : List Cond := [Cond.methodLink RX5 53 yX5_shipOf, Cond.instanceMethod yX5_shipOf, Cond.selects RX5 yX5_shipOf yX5_shipOf, Cond.code yX5_shipOf cX5_shipOf 3 (some .int), Cond.methodLink RX5 64 yX5_eastOf, Cond.static yX5_eastOf, Cond.code yX5_eastOf cX5_eastOf 1 (some .int), Cond.methodLink RX5 50 yX5_northOf, Cond.static yX5_northOf, Cond.code yX5_northOf cX5_northOf 4 (some .int), Cond.methodLink RX5 107 yX5_isRisk, Cond.instanceMethod yX5_isRisk, Cond.selects RX5 yX5_isRisk yX5_isRisk, Cond.code yX5_isRisk cX5_isRisk 3 (some .boolean), Cond.fieldLink RX5 90 "PastAndClearModel" "farAbove" "J", Cond.fieldLink RX5 93 "PastAndClearModel" "farBelow" "J", Cond.fieldLink RX5 81 "PastAndClearModel" "timeAbove" "J", Cond.fieldLink RX5 84 "PastAndClearModel" "timeBelow" "J", Cond.methodLink RX5 100 yX5_findsClosest, Cond.instanceMethod yX5_findsClosest, Cond.selects RX5 yX5_findsClosest yX5_findsClosest, Cond.code yX5_findsClosest cX5_findsClosest 7 none, Cond.methodLink RX5 77 yX5_towards, Cond.instanceMethod yX5_towards]
def wsX5_clear_r3 : List Cond := [Cond.selects RX5 yX5_towards yX5_towards, Cond.code yX5_towards cX5_towards 1 (some .long), Cond.methodLink RX5 87 yX5_squareAway, Cond.instanceMethod yX5_squareAway, Cond.selects RX5 yX5_squareAway yX5_squareAway, Cond.code yX5_squareAway cX5_squareAway 1 (some .long), Cond.methodLink RX5 96 yX5_common, Cond.static yX5_common, Cond.code yX5_common cX5_common 10 (some .long), Cond.methodLink RX5 35 yX5_refuses, Cond.instanceMethod yX5_refuses, Cond.selects RX5 yX5_refuses yX5_refuses, Cond.code yX5_refuses cX5_refuses 2 (some .int), Cond.fieldLink RX5 19 "PastAndClearModel" "refusals" "[I"]
def wsX5_clear : List Cond := .code yX5_clear cX5_clear 4 (some .int) :: ((wsX5_clear_r1 ++ (wsX5_clear_r2 ++ wsX5_clear_r3)) ++ wsX50)
def wsX5_blockedBy_r1 : List Cond := [Cond.methodLink RX5 53 yX5_shipOf, Cond.instanceMethod yX5_shipOf, Cond.selects RX5 yX5_shipOf yX5_shipOf, Cond.initialized RX5, Cond.code yX5_shipOf cX5_shipOf 3 (some .int), Cond.fieldLink RX5 7 "PastAndClearModel" "now" "[I", Cond.methodLink RX5 73 yX5_lays, Cond.instanceMethod yX5_lays, Cond.selects RX5 yX5_lays yX5_lays, Cond.code yX5_lays cX5_lays 5 none, Cond.fieldLink RX5 57 "PastAndClearModel" "placeX" "J", Cond.fieldLink RX5 61 "PastAndClearModel" "placeY" "J", Cond.fieldLink RX5 67 "PastAndClearModel" "speedX" "J", Cond.fieldLink RX5 70 "PastAndClearModel" "speedY" "J", Cond.methodLink RX5 64 yX5_eastOf, Cond.static yX5_eastOf, Cond.code yX5_eastOf cX5_eastOf 1 (some .int), Cond.methodLink RX5 50 yX5_northOf, Cond.static yX5_northOf, Cond.code yX5_northOf cX5_northOf 4 (some .int), Cond.methodLink RX5 107 yX5_isRisk, Cond.instanceMethod yX5_isRisk, Cond.selects RX5 yX5_isRisk yX5_isRisk, Cond.code yX5_isRisk cX5_isRisk 3 (some .boolean)]
def wsX5_blockedBy_r2 : List Cond := [Cond.fieldLink RX5 90 "PastAndClearModel" "farAbove" "J", Cond.fieldLink RX5 93 "PastAndClearModel" "farBelow" "J", Cond.fieldLink RX5 81 "PastAndClearModel" "timeAbove" "J", Cond.fieldLink RX5 84 "PastAndClearModel" "timeBelow" "J", Cond.methodLink RX5 100 yX5_findsClosest, Cond.instanceMethod yX5_findsClosest, Cond.selects RX5 yX5_findsClosest yX5_findsClosest, Cond.code yX5_findsClosest cX5_findsClosest 7 none, Cond.methodLink RX5 77 yX5_towards, Cond.instanceMethod yX5_towards, Cond.selects RX5 yX5_towards yX5_towards, Cond.code yX5_towards cX5_towards 1 (some .long), Cond.methodLink RX5 87 yX5_squareAway, Cond.instanceMethod yX5_squareAway, Cond.selects RX5 yX5_squareAway yX5_squareAway, Cond.code yX5_squareAway cX5_squareAway 1 (some .long), Cond.methodLink RX5 96 yX5_common, Cond.static yX5_common, Cond.code yX5_common cX5_common 10 (some .long)]
def wsX5_blockedBy : List Cond := .code yX5_blockedBy cX5_blockedBy 4 (some .int) :: ((wsX5_blockedBy_r1 ++ wsX5_blockedBy_r2) ++ wsX50)
def wsX5_blocked_r1 : List Cond := [Cond.methodLink RX5 136 yX5_isOther, Cond.instanceMethod yX5_isOther, Cond.selects RX5 yX5_isOther yX5_isOther, Cond.initialized RX5, Cond.code yX5_isOther cX5_isOther 2 (some .boolean), Cond.methodLink RX5 46 yX5_isShip, Cond.instanceMethod yX5_isShip, Cond.selects RX5 yX5_isShip yX5_isShip, Cond.code yX5_isShip cX5_isShip 2 (some .boolean), Cond.fieldLink RX5 7 "PastAndClearModel" "now" "[I", Cond.methodLink RX5 42 yX5_in, Cond.static yX5_in, Cond.code yX5_in cX5_in 3 (some .boolean), Cond.methodLink RX5 203 yX5_blockedBy, Cond.instanceMethod yX5_blockedBy, Cond.selects RX5 yX5_blockedBy yX5_blockedBy, Cond.code yX5_blockedBy cX5_blockedBy 4 (some .int), Cond.methodLink RX5 53 yX5_shipOf, Cond.instanceMethod yX5_shipOf, Cond.selects RX5 yX5_shipOf yX5_shipOf, Cond.code yX5_shipOf cX5_shipOf 3 (some .int), Cond.methodLink RX5 73 yX5_lays, Cond.instanceMethod yX5_lays, Cond.selects RX5 yX5_lays yX5_lays]
def wsX5_blocked_r2 : List Cond := [Cond.code yX5_lays cX5_lays 5 none, Cond.fieldLink RX5 57 "PastAndClearModel" "placeX" "J", Cond.fieldLink RX5 61 "PastAndClearModel" "placeY" "J", Cond.fieldLink RX5 67 "PastAndClearModel" "speedX" "J", Cond.fieldLink RX5 70 "PastAndClearModel" "speedY" "J", Cond.methodLink RX5 64 yX5_eastOf, Cond.static yX5_eastOf, Cond.code yX5_eastOf cX5_eastOf 1 (some .int), Cond.methodLink RX5 50 yX5_northOf, Cond.static yX5_northOf, Cond.code yX5_northOf cX5_northOf 4 (some .int), Cond.methodLink RX5 107 yX5_isRisk, Cond.instanceMethod yX5_isRisk, Cond.selects RX5 yX5_isRisk yX5_isRisk, Cond.code yX5_isRisk cX5_isRisk 3 (some .boolean), Cond.fieldLink RX5 90 "PastAndClearModel" "farAbove" "J", Cond.fieldLink RX5 93 "PastAndClearModel" "farBelow" "J", Cond.fieldLink RX5 81 "PastAndClearModel" "timeAbove" "J", Cond.fieldLink RX5 84 "PastAndClearModel" "timeBelow" "J", Cond.methodLink RX5 100 yX5_findsClosest, Cond.instanceMethod yX5_findsClosest, Cond.selects RX5 yX5_findsClosest yX5_findsClosest, Cond.code yX5_findsClosest cX5_findsClosest 7 none, Cond.methodLink RX5 77 yX5_towards]
def wsX5_blocked_r3 : List Cond := [Cond.instanceMethod yX5_towards, Cond.selects RX5 yX5_towards yX5_towards, Cond.code yX5_towards cX5_towards 1 (some .long), Cond.methodLink RX5 87 yX5_squareAway, Cond.instanceMethod yX5_squareAway, Cond.selects RX5 yX5_squareAway yX5_squareAway, Cond.code yX5_squareAway cX5_squareAway 1 (some .long), Cond.methodLink RX5 96 yX5_common, Cond.static yX5_common, Cond.code yX5_common cX5_common 10 (some .long), Cond.methodLink RX5 35 yX5_refuses, Cond.instanceMethod yX5_refuses, Cond.selects RX5 yX5_refuses yX5_refuses, Cond.code yX5_refuses cX5_refuses 2 (some .int), Cond.fieldLink RX5 19 "PastAndClearModel" "refusals" "[I"]
def wsX5_blocked : List Cond := .code yX5_blocked cX5_blocked 2 (some .int) :: ((wsX5_blocked_r1 ++ (wsX5_blocked_r2 ++ wsX5_blocked_r3)) ++ wsX50)
def wsX5_advice_r1 : List Cond := [Cond.methodLink RX5 46 yX5_isShip, Cond.instanceMethod yX5_isShip, Cond.selects RX5 yX5_isShip yX5_isShip, Cond.initialized RX5, Cond.code yX5_isShip cX5_isShip 2 (some .boolean), Cond.fieldLink RX5 7 "PastAndClearModel" "now" "[I", Cond.methodLink RX5 42 yX5_in, Cond.static yX5_in, Cond.code yX5_in cX5_in 3 (some .boolean), Cond.methodLink RX5 161 yX5_adviceFor, Cond.instanceMethod yX5_adviceFor, Cond.selects RX5 yX5_adviceFor yX5_adviceFor, Cond.code yX5_adviceFor cX5_adviceFor 5 (some .int), Cond.methodLink RX5 53 yX5_shipOf, Cond.instanceMethod yX5_shipOf, Cond.selects RX5 yX5_shipOf yX5_shipOf, Cond.code yX5_shipOf cX5_shipOf 3 (some .int), Cond.methodLink RX5 155 yX5_mustGiveWay, Cond.instanceMethod yX5_mustGiveWay, Cond.selects RX5 yX5_mustGiveWay yX5_mustGiveWay, Cond.code yX5_mustGiveWay cX5_mustGiveWay 4 (some .boolean), Cond.methodLink RX5 139 yX5_tableOf, Cond.instanceMethod yX5_tableOf, Cond.selects RX5 yX5_tableOf yX5_tableOf]
def wsX5_advice_r2 : List Cond := [Cond.code yX5_tableOf cX5_tableOf 5 (some .int), Cond.methodLink RX5 115 yX5_haveRisk, Cond.instanceMethod yX5_haveRisk, Cond.selects RX5 yX5_haveRisk yX5_haveRisk, Cond.code yX5_haveRisk cX5_haveRisk 3 (some .boolean), Cond.methodLink RX5 103 yX5_laysAsTheyAre, Cond.instanceMethod yX5_laysAsTheyAre, Cond.selects RX5 yX5_laysAsTheyAre yX5_laysAsTheyAre, Cond.code yX5_laysAsTheyAre cX5_laysAsTheyAre 3 none, Cond.methodLink RX5 73 yX5_lays, Cond.instanceMethod yX5_lays, Cond.selects RX5 yX5_lays yX5_lays, Cond.code yX5_lays cX5_lays 5 none, Cond.fieldLink RX5 57 "PastAndClearModel" "placeX" "J", Cond.fieldLink RX5 61 "PastAndClearModel" "placeY" "J", Cond.fieldLink RX5 67 "PastAndClearModel" "speedX" "J", Cond.fieldLink RX5 70 "PastAndClearModel" "speedY" "J", Cond.methodLink RX5 64 yX5_eastOf, Cond.static yX5_eastOf, Cond.code yX5_eastOf cX5_eastOf 1 (some .int), Cond.methodLink RX5 50 yX5_northOf, Cond.static yX5_northOf, Cond.code yX5_northOf cX5_northOf 4 (some .int), Cond.methodLink RX5 107 yX5_isRisk]
def wsX5_advice_r3 : List Cond := [Cond.instanceMethod yX5_isRisk, Cond.selects RX5 yX5_isRisk yX5_isRisk, Cond.code yX5_isRisk cX5_isRisk 3 (some .boolean), Cond.fieldLink RX5 90 "PastAndClearModel" "farAbove" "J", Cond.fieldLink RX5 93 "PastAndClearModel" "farBelow" "J", Cond.fieldLink RX5 81 "PastAndClearModel" "timeAbove" "J", Cond.fieldLink RX5 84 "PastAndClearModel" "timeBelow" "J", Cond.methodLink RX5 100 yX5_findsClosest, Cond.instanceMethod yX5_findsClosest, Cond.selects RX5 yX5_findsClosest yX5_findsClosest, Cond.code yX5_findsClosest cX5_findsClosest 7 none, Cond.methodLink RX5 77 yX5_towards, Cond.instanceMethod yX5_towards, Cond.selects RX5 yX5_towards yX5_towards, Cond.code yX5_towards cX5_towards 1 (some .long), Cond.methodLink RX5 87 yX5_squareAway, Cond.instanceMethod yX5_squareAway, Cond.selects RX5 yX5_squareAway yX5_squareAway, Cond.code yX5_squareAway cX5_squareAway 1 (some .long), Cond.methodLink RX5 96 yX5_common, Cond.static yX5_common, Cond.code yX5_common cX5_common 10 (some .long), Cond.methodLink RX5 119 yX5_sectorOf, Cond.instanceMethod yX5_sectorOf]
def wsX5_advice_r4 : List Cond := [Cond.selects RX5 yX5_sectorOf yX5_sectorOf, Cond.code yX5_sectorOf cX5_sectorOf 13 (some .int), Cond.constantLong RX5 111 (4), Cond.constantLong RX5 113 (-2), Cond.methodLink RX5 158 yX5_isClear, Cond.instanceMethod yX5_isClear, Cond.selects RX5 yX5_isClear yX5_isClear, Cond.code yX5_isClear cX5_isClear 6 (some .boolean), Cond.methodLink RX5 35 yX5_refuses, Cond.instanceMethod yX5_refuses, Cond.selects RX5 yX5_refuses yX5_refuses, Cond.code yX5_refuses cX5_refuses 2 (some .int), Cond.fieldLink RX5 19 "PastAndClearModel" "refusals" "[I"]
def wsX5_advice : List Cond := .code yX5_advice cX5_advice 2 (some .int) :: ((wsX5_advice_r1 ++ (wsX5_advice_r2 ++ (wsX5_advice_r3 ++ wsX5_advice_r4))) ++ wsX50)
def wsX5_countOf : List Cond := .code yX5_countOf cX5_countOf 2 (some .int) :: ([.fieldLink RX5 7 "PastAndClearModel" "now" "[I"] ++ wsX50)
def wsX5_count : List Cond := .code yX5_count cX5_count 2 (some .int) :: ([.methodLink RX5 42 yX5_in, .static yX5_in, .initialized RX5, .code yX5_in cX5_in 3 (some .boolean), .methodLink RX5 206 yX5_countOf, .instanceMethod yX5_countOf, .selects RX5 yX5_countOf yX5_countOf, .code yX5_countOf cX5_countOf 2 (some .int), .fieldLink RX5 7 "PastAndClearModel" "now" "[I", .methodLink RX5 35 yX5_refuses, .instanceMethod yX5_refuses, .selects RX5 yX5_refuses yX5_refuses, .code yX5_refuses cX5_refuses 2 (some .int), .fieldLink RX5 19 "PastAndClearModel" "refusals" "[I"] ++ wsX50)
def wsX5_type : List Cond := .code yX5_type cX5_type 2 (some .int) :: ([.fieldLink RX5 209 "PastAndClearModel" "bytes" "I", .fieldLink RX5 22 "PastAndClearModel" "text" "[I", .methodLink RX5 42 yX5_in, .static yX5_in, .initialized RX5, .code yX5_in cX5_in 3 (some .boolean), .methodLink RX5 35 yX5_refuses, .instanceMethod yX5_refuses, .selects RX5 yX5_refuses yX5_refuses, .code yX5_refuses cX5_refuses 2 (some .int), .fieldLink RX5 19 "PastAndClearModel" "refusals" "[I"] ++ wsX50)
def wsX5_wipes : List Cond := .code yX5_wipes cX5_wipes 2 (some .int) :: ([.fieldLink RX5 209 "PastAndClearModel" "bytes" "I"] ++ wsX50)
def wsX5_isAt : List Cond := .code yX5_isAt cX5_isAt 3 (some .boolean) :: ([.fieldLink RX5 212 "PastAndClearModel" "spot" "I", .fieldLink RX5 209 "PastAndClearModel" "bytes" "I", .fieldLink RX5 22 "PastAndClearModel" "text" "[I", .methodLink RX5 42 yX5_in, .static yX5_in, .initialized RX5, .code yX5_in cX5_in 3 (some .boolean)] ++ wsX50)
def wsX5_blanks : List Cond := .code yX5_blanks cX5_blanks 1 none :: ([.fieldLink RX5 212 "PastAndClearModel" "spot" "I", .methodLink RX5 215 yX5_isAt, .instanceMethod yX5_isAt, .selects RX5 yX5_isAt yX5_isAt, .initialized RX5, .code yX5_isAt cX5_isAt 3 (some .boolean), .fieldLink RX5 209 "PastAndClearModel" "bytes" "I", .fieldLink RX5 22 "PastAndClearModel" "text" "[I", .methodLink RX5 42 yX5_in, .static yX5_in, .code yX5_in cX5_in 3 (some .boolean)] ++ wsX50)
def wsX5_fails : List Cond := .code yX5_fails cX5_fails 1 (some .boolean) :: ([.fieldLink RX5 212 "PastAndClearModel" "spot" "I", .fieldLink RX5 218 "PastAndClearModel" "wrongAt" "I"] ++ wsX50)
def wsX5_manyOf : List Cond := .code yX5_manyOf cX5_manyOf 1 (some .int) :: ([])
def wsX5_takesNumber : List Cond := .code yX5_takesNumber cX5_takesNumber 6 (some .boolean) :: ([.fieldLink RX5 212 "PastAndClearModel" "spot" "I", .fieldLink RX5 22 "PastAndClearModel" "text" "[I", .fieldLink RX5 28 "PastAndClearModel" "numbers" "[I", .methodLink RX5 221 yX5_blanks, .instanceMethod yX5_blanks, .selects RX5 yX5_blanks yX5_blanks, .initialized RX5, .code yX5_blanks cX5_blanks 1 none, .methodLink RX5 215 yX5_isAt, .instanceMethod yX5_isAt, .selects RX5 yX5_isAt yX5_isAt, .code yX5_isAt cX5_isAt 3 (some .boolean), .fieldLink RX5 209 "PastAndClearModel" "bytes" "I", .methodLink RX5 42 yX5_in, .static yX5_in, .code yX5_in cX5_in 3 (some .boolean), .methodLink RX5 224 yX5_fails, .instanceMethod yX5_fails, .selects RX5 yX5_fails yX5_fails, .code yX5_fails cX5_fails 1 (some .boolean), .fieldLink RX5 218 "PastAndClearModel" "wrongAt" "I"] ++ wsX50)
def wsX5_takesOrder_r1 : List Cond := [Cond.fieldLink RX5 22 "PastAndClearModel" "text" "[I", Cond.fieldLink RX5 212 "PastAndClearModel" "spot" "I", Cond.fieldLink RX5 25 "PastAndClearModel" "letters" "[I", Cond.fieldLink RX5 230 "PastAndClearModel" "orders" "I", Cond.methodLink RX5 227 yX5_manyOf, Cond.static yX5_manyOf, Cond.initialized RX5, Cond.code yX5_manyOf cX5_manyOf 1 (some .int), Cond.methodLink RX5 224 yX5_fails, Cond.instanceMethod yX5_fails, Cond.selects RX5 yX5_fails yX5_fails, Cond.code yX5_fails cX5_fails 1 (some .boolean), Cond.fieldLink RX5 218 "PastAndClearModel" "wrongAt" "I", Cond.methodLink RX5 233 yX5_takesNumber, Cond.instanceMethod yX5_takesNumber, Cond.selects RX5 yX5_takesNumber yX5_takesNumber, Cond.code yX5_takesNumber cX5_takesNumber 6 (some .boolean), Cond.fieldLink RX5 28 "PastAndClearModel" "numbers" "[I", Cond.methodLink RX5 221 yX5_blanks, Cond.instanceMethod yX5_blanks, Cond.selects RX5 yX5_blanks yX5_blanks, Cond.code yX5_blanks cX5_blanks 1 none, Cond.methodLink RX5 215 yX5_isAt, Cond.instanceMethod yX5_isAt]
def wsX5_takesOrder_r2 : List Cond := [Cond.selects RX5 yX5_isAt yX5_isAt, Cond.code yX5_isAt cX5_isAt 3 (some .boolean), Cond.fieldLink RX5 209 "PastAndClearModel" "bytes" "I", Cond.methodLink RX5 42 yX5_in, Cond.static yX5_in, Cond.code yX5_in cX5_in 3 (some .boolean)]
def wsX5_takesOrder : List Cond := .code yX5_takesOrder cX5_takesOrder 4 (some .boolean) :: ((wsX5_takesOrder_r1 ++ wsX5_takesOrder_r2) ++ wsX50)
def wsX5_isRead_r1 : List Cond := [Cond.fieldLink RX5 212 "PastAndClearModel" "spot" "I", Cond.fieldLink RX5 230 "PastAndClearModel" "orders" "I", Cond.fieldLink RX5 209 "PastAndClearModel" "bytes" "I", Cond.methodLink RX5 221 yX5_blanks, Cond.instanceMethod yX5_blanks, Cond.selects RX5 yX5_blanks yX5_blanks, Cond.initialized RX5, Cond.code yX5_blanks cX5_blanks 1 none, Cond.methodLink RX5 215 yX5_isAt, Cond.instanceMethod yX5_isAt, Cond.selects RX5 yX5_isAt yX5_isAt, Cond.code yX5_isAt cX5_isAt 3 (some .boolean), Cond.fieldLink RX5 22 "PastAndClearModel" "text" "[I", Cond.methodLink RX5 42 yX5_in, Cond.static yX5_in, Cond.code yX5_in cX5_in 3 (some .boolean), Cond.methodLink RX5 237 yX5_takesOrder, Cond.instanceMethod yX5_takesOrder, Cond.selects RX5 yX5_takesOrder yX5_takesOrder, Cond.code yX5_takesOrder cX5_takesOrder 4 (some .boolean), Cond.fieldLink RX5 25 "PastAndClearModel" "letters" "[I", Cond.methodLink RX5 227 yX5_manyOf, Cond.static yX5_manyOf, Cond.code yX5_manyOf cX5_manyOf 1 (some .int)]
def wsX5_isRead_r2 : List Cond := [Cond.methodLink RX5 224 yX5_fails, Cond.instanceMethod yX5_fails, Cond.selects RX5 yX5_fails yX5_fails, Cond.code yX5_fails cX5_fails 1 (some .boolean), Cond.fieldLink RX5 218 "PastAndClearModel" "wrongAt" "I", Cond.methodLink RX5 233 yX5_takesNumber, Cond.instanceMethod yX5_takesNumber, Cond.selects RX5 yX5_takesNumber yX5_takesNumber, Cond.code yX5_takesNumber cX5_takesNumber 6 (some .boolean), Cond.fieldLink RX5 28 "PastAndClearModel" "numbers" "[I"]
def wsX5_isRead : List Cond := .code yX5_isRead cX5_isRead 1 (some .boolean) :: ((wsX5_isRead_r1 ++ wsX5_isRead_r2) ++ wsX50)
def wsX5_doneOne_r1 : List Cond := [Cond.fieldLink RX5 28 "PastAndClearModel" "numbers" "[I", Cond.fieldLink RX5 25 "PastAndClearModel" "letters" "[I", Cond.methodLink RX5 167 yX5_putOther, Cond.instanceMethod yX5_putOther, Cond.selects RX5 yX5_putOther yX5_putOther, Cond.initialized RX5, Cond.code yX5_putOther cX5_putOther 6 (some .int), Cond.fieldLink RX5 7 "PastAndClearModel" "now" "[I", Cond.methodLink RX5 122 yX5_isPlace, Cond.static yX5_isPlace, Cond.code yX5_isPlace cX5_isPlace 2 (some .boolean), Cond.methodLink RX5 42 yX5_in, Cond.static yX5_in, Cond.code yX5_in cX5_in 3 (some .boolean), Cond.methodLink RX5 125 yX5_isCourse, Cond.static yX5_isCourse, Cond.code yX5_isCourse cX5_isCourse 2 (some .boolean), Cond.methodLink RX5 128 yX5_puts, Cond.instanceMethod yX5_puts, Cond.selects RX5 yX5_puts yX5_puts, Cond.code yX5_puts cX5_puts 6 none, Cond.methodLink RX5 132 yX5_tells, Cond.instanceMethod yX5_tells, Cond.selects RX5 yX5_tells yX5_tells]
def wsX5_doneOne_r2 : List Cond := [Cond.code yX5_tells cX5_tells 4 none, Cond.methodLink RX5 174 yX5_putOwn, Cond.instanceMethod yX5_putOwn, Cond.selects RX5 yX5_putOwn yX5_putOwn, Cond.code yX5_putOwn cX5_putOwn 6 (some .int), Cond.methodLink RX5 180 yX5_putCourse, Cond.instanceMethod yX5_putCourse, Cond.selects RX5 yX5_putCourse yX5_putCourse, Cond.code yX5_putCourse cX5_putCourse 5 (some .int), Cond.methodLink RX5 46 yX5_isShip, Cond.instanceMethod yX5_isShip, Cond.selects RX5 yX5_isShip yX5_isShip, Cond.code yX5_isShip cX5_isShip 2 (some .boolean), Cond.methodLink RX5 53 yX5_shipOf, Cond.instanceMethod yX5_shipOf, Cond.selects RX5 yX5_shipOf yX5_shipOf, Cond.code yX5_shipOf cX5_shipOf 3 (some .int), Cond.methodLink RX5 187 yX5_putSteps, Cond.instanceMethod yX5_putSteps, Cond.selects RX5 yX5_putSteps yX5_putSteps, Cond.code yX5_putSteps cX5_putSteps 5 (some .int), Cond.methodLink RX5 145 yX5_eastSpeed, Cond.instanceMethod yX5_eastSpeed, Cond.selects RX5 yX5_eastSpeed yX5_eastSpeed]
def wsX5_doneOne_r3 : List Cond := [Cond.code yX5_eastSpeed cX5_eastSpeed 2 (some .int), Cond.methodLink RX5 64 yX5_eastOf, Cond.static yX5_eastOf, Cond.code yX5_eastOf cX5_eastOf 1 (some .int), Cond.methodLink RX5 50 yX5_northOf, Cond.static yX5_northOf, Cond.code yX5_northOf cX5_northOf 4 (some .int), Cond.methodLink RX5 148 yX5_northSpeed, Cond.instanceMethod yX5_northSpeed, Cond.selects RX5 yX5_northSpeed yX5_northSpeed, Cond.code yX5_northSpeed cX5_northSpeed 2 (some .int), Cond.methodLink RX5 151 yX5_look, Cond.instanceMethod yX5_look, Cond.selects RX5 yX5_look yX5_look, Cond.code yX5_look cX5_look 5 (some .int), Cond.methodLink RX5 139 yX5_tableOf, Cond.instanceMethod yX5_tableOf, Cond.selects RX5 yX5_tableOf yX5_tableOf, Cond.code yX5_tableOf cX5_tableOf 5 (some .int), Cond.methodLink RX5 115 yX5_haveRisk, Cond.instanceMethod yX5_haveRisk, Cond.selects RX5 yX5_haveRisk yX5_haveRisk, Cond.code yX5_haveRisk cX5_haveRisk 3 (some .boolean), Cond.methodLink RX5 103 yX5_laysAsTheyAre]
def wsX5_doneOne_r4 : List Cond := [Cond.instanceMethod yX5_laysAsTheyAre, Cond.selects RX5 yX5_laysAsTheyAre yX5_laysAsTheyAre, Cond.code yX5_laysAsTheyAre cX5_laysAsTheyAre 3 none, Cond.methodLink RX5 73 yX5_lays, Cond.instanceMethod yX5_lays, Cond.selects RX5 yX5_lays yX5_lays, Cond.code yX5_lays cX5_lays 5 none, Cond.fieldLink RX5 57 "PastAndClearModel" "placeX" "J", Cond.fieldLink RX5 61 "PastAndClearModel" "placeY" "J", Cond.fieldLink RX5 67 "PastAndClearModel" "speedX" "J", Cond.fieldLink RX5 70 "PastAndClearModel" "speedY" "J", Cond.methodLink RX5 107 yX5_isRisk, Cond.instanceMethod yX5_isRisk, Cond.selects RX5 yX5_isRisk yX5_isRisk, Cond.code yX5_isRisk cX5_isRisk 3 (some .boolean), Cond.fieldLink RX5 90 "PastAndClearModel" "farAbove" "J", Cond.fieldLink RX5 93 "PastAndClearModel" "farBelow" "J", Cond.fieldLink RX5 81 "PastAndClearModel" "timeAbove" "J", Cond.fieldLink RX5 84 "PastAndClearModel" "timeBelow" "J", Cond.methodLink RX5 100 yX5_findsClosest, Cond.instanceMethod yX5_findsClosest, Cond.selects RX5 yX5_findsClosest yX5_findsClosest, Cond.code yX5_findsClosest cX5_findsClosest 7 none, Cond.methodLink RX5 77 yX5_towards]
def wsX5_doneOne_r5 : List Cond := [Cond.instanceMethod yX5_towards, Cond.selects RX5 yX5_towards yX5_towards, Cond.code yX5_towards cX5_towards 1 (some .long), Cond.methodLink RX5 87 yX5_squareAway, Cond.instanceMethod yX5_squareAway, Cond.selects RX5 yX5_squareAway yX5_squareAway, Cond.code yX5_squareAway cX5_squareAway 1 (some .long), Cond.methodLink RX5 96 yX5_common, Cond.static yX5_common, Cond.code yX5_common cX5_common 10 (some .long), Cond.methodLink RX5 119 yX5_sectorOf, Cond.instanceMethod yX5_sectorOf, Cond.selects RX5 yX5_sectorOf yX5_sectorOf, Cond.code yX5_sectorOf cX5_sectorOf 13 (some .int), Cond.constantLong RX5 111 (4), Cond.constantLong RX5 113 (-2), Cond.methodLink RX5 142 yX5_isPastAndClear, Cond.instanceMethod yX5_isPastAndClear, Cond.selects RX5 yX5_isPastAndClear yX5_isPastAndClear, Cond.code yX5_isPastAndClear cX5_isPastAndClear 4 (some .boolean), Cond.methodLink RX5 190 yX5_putObeyed, Cond.instanceMethod yX5_putObeyed, Cond.selects RX5 yX5_putObeyed yX5_putObeyed, Cond.code yX5_putObeyed cX5_putObeyed 2 (some .int)]
def wsX5_doneOne_r6 : List Cond := [Cond.methodLink RX5 161 yX5_adviceFor, Cond.instanceMethod yX5_adviceFor, Cond.selects RX5 yX5_adviceFor yX5_adviceFor, Cond.code yX5_adviceFor cX5_adviceFor 5 (some .int), Cond.methodLink RX5 155 yX5_mustGiveWay, Cond.instanceMethod yX5_mustGiveWay, Cond.selects RX5 yX5_mustGiveWay yX5_mustGiveWay, Cond.code yX5_mustGiveWay cX5_mustGiveWay 4 (some .boolean), Cond.methodLink RX5 158 yX5_isClear, Cond.instanceMethod yX5_isClear, Cond.selects RX5 yX5_isClear yX5_isClear, Cond.code yX5_isClear cX5_isClear 6 (some .boolean), Cond.methodLink RX5 184 yX5_putSetting, Cond.instanceMethod yX5_putSetting, Cond.selects RX5 yX5_putSetting yX5_putSetting, Cond.code yX5_putSetting cX5_putSetting 4 (some .int)]
def wsX5_doneOne : List Cond := .code yX5_doneOne cX5_doneOne 6 (some .int) :: ((wsX5_doneOne_r1 ++ (wsX5_doneOne_r2 ++ (wsX5_doneOne_r3 ++ (wsX5_doneOne_r4 ++ (wsX5_doneOne_r5 ++ wsX5_doneOne_r6))))) ++ wsX50)
def wsX5_does_r1 : List Cond := [Cond.fieldLink RX5 218 "PastAndClearModel" "wrongAt" "I", Cond.fieldLink RX5 230 "PastAndClearModel" "orders" "I", Cond.fieldLink RX5 7 "PastAndClearModel" "now" "[I", Cond.fieldLink RX5 13 "PastAndClearModel" "aside" "[I", Cond.methodLink RX5 240 yX5_isRead, Cond.instanceMethod yX5_isRead, Cond.selects RX5 yX5_isRead yX5_isRead, Cond.initialized RX5, Cond.code yX5_isRead cX5_isRead 1 (some .boolean), Cond.fieldLink RX5 212 "PastAndClearModel" "spot" "I", Cond.fieldLink RX5 209 "PastAndClearModel" "bytes" "I", Cond.methodLink RX5 221 yX5_blanks, Cond.instanceMethod yX5_blanks, Cond.selects RX5 yX5_blanks yX5_blanks, Cond.code yX5_blanks cX5_blanks 1 none, Cond.methodLink RX5 215 yX5_isAt, Cond.instanceMethod yX5_isAt, Cond.selects RX5 yX5_isAt yX5_isAt, Cond.code yX5_isAt cX5_isAt 3 (some .boolean), Cond.fieldLink RX5 22 "PastAndClearModel" "text" "[I", Cond.methodLink RX5 42 yX5_in, Cond.static yX5_in, Cond.code yX5_in cX5_in 3 (some .boolean), Cond.methodLink RX5 237 yX5_takesOrder]
def wsX5_does_r2 : List Cond := [Cond.instanceMethod yX5_takesOrder, Cond.selects RX5 yX5_takesOrder yX5_takesOrder, Cond.code yX5_takesOrder cX5_takesOrder 4 (some .boolean), Cond.fieldLink RX5 25 "PastAndClearModel" "letters" "[I", Cond.methodLink RX5 227 yX5_manyOf, Cond.static yX5_manyOf, Cond.code yX5_manyOf cX5_manyOf 1 (some .int), Cond.methodLink RX5 224 yX5_fails, Cond.instanceMethod yX5_fails, Cond.selects RX5 yX5_fails yX5_fails, Cond.code yX5_fails cX5_fails 1 (some .boolean), Cond.methodLink RX5 233 yX5_takesNumber, Cond.instanceMethod yX5_takesNumber, Cond.selects RX5 yX5_takesNumber yX5_takesNumber, Cond.code yX5_takesNumber cX5_takesNumber 6 (some .boolean), Cond.fieldLink RX5 28 "PastAndClearModel" "numbers" "[I", Cond.methodLink RX5 164 yX5_laysAside, Cond.instanceMethod yX5_laysAside, Cond.selects RX5 yX5_laysAside yX5_laysAside, Cond.code yX5_laysAside cX5_laysAside 2 none, Cond.methodLink RX5 243 yX5_doneOne, Cond.instanceMethod yX5_doneOne, Cond.selects RX5 yX5_doneOne yX5_doneOne, Cond.code yX5_doneOne cX5_doneOne 6 (some .int)]
def wsX5_does_r3 : List Cond := [Cond.methodLink RX5 167 yX5_putOther, Cond.instanceMethod yX5_putOther, Cond.selects RX5 yX5_putOther yX5_putOther, Cond.code yX5_putOther cX5_putOther 6 (some .int), Cond.methodLink RX5 122 yX5_isPlace, Cond.static yX5_isPlace, Cond.code yX5_isPlace cX5_isPlace 2 (some .boolean), Cond.methodLink RX5 125 yX5_isCourse, Cond.static yX5_isCourse, Cond.code yX5_isCourse cX5_isCourse 2 (some .boolean), Cond.methodLink RX5 128 yX5_puts, Cond.instanceMethod yX5_puts, Cond.selects RX5 yX5_puts yX5_puts, Cond.code yX5_puts cX5_puts 6 none, Cond.methodLink RX5 132 yX5_tells, Cond.instanceMethod yX5_tells, Cond.selects RX5 yX5_tells yX5_tells, Cond.code yX5_tells cX5_tells 4 none, Cond.methodLink RX5 174 yX5_putOwn, Cond.instanceMethod yX5_putOwn, Cond.selects RX5 yX5_putOwn yX5_putOwn, Cond.code yX5_putOwn cX5_putOwn 6 (some .int), Cond.methodLink RX5 180 yX5_putCourse, Cond.instanceMethod yX5_putCourse]
def wsX5_does_r4 : List Cond := [Cond.selects RX5 yX5_putCourse yX5_putCourse, Cond.code yX5_putCourse cX5_putCourse 5 (some .int), Cond.methodLink RX5 46 yX5_isShip, Cond.instanceMethod yX5_isShip, Cond.selects RX5 yX5_isShip yX5_isShip, Cond.code yX5_isShip cX5_isShip 2 (some .boolean), Cond.methodLink RX5 53 yX5_shipOf, Cond.instanceMethod yX5_shipOf, Cond.selects RX5 yX5_shipOf yX5_shipOf, Cond.code yX5_shipOf cX5_shipOf 3 (some .int), Cond.methodLink RX5 187 yX5_putSteps, Cond.instanceMethod yX5_putSteps, Cond.selects RX5 yX5_putSteps yX5_putSteps, Cond.code yX5_putSteps cX5_putSteps 5 (some .int), Cond.methodLink RX5 145 yX5_eastSpeed, Cond.instanceMethod yX5_eastSpeed, Cond.selects RX5 yX5_eastSpeed yX5_eastSpeed, Cond.code yX5_eastSpeed cX5_eastSpeed 2 (some .int), Cond.methodLink RX5 64 yX5_eastOf, Cond.static yX5_eastOf, Cond.code yX5_eastOf cX5_eastOf 1 (some .int), Cond.methodLink RX5 50 yX5_northOf, Cond.static yX5_northOf, Cond.code yX5_northOf cX5_northOf 4 (some .int)]
def wsX5_does_r5 : List Cond := [Cond.methodLink RX5 148 yX5_northSpeed, Cond.instanceMethod yX5_northSpeed, Cond.selects RX5 yX5_northSpeed yX5_northSpeed, Cond.code yX5_northSpeed cX5_northSpeed 2 (some .int), Cond.methodLink RX5 151 yX5_look, Cond.instanceMethod yX5_look, Cond.selects RX5 yX5_look yX5_look, Cond.code yX5_look cX5_look 5 (some .int), Cond.methodLink RX5 139 yX5_tableOf, Cond.instanceMethod yX5_tableOf, Cond.selects RX5 yX5_tableOf yX5_tableOf, Cond.code yX5_tableOf cX5_tableOf 5 (some .int), Cond.methodLink RX5 115 yX5_haveRisk, Cond.instanceMethod yX5_haveRisk, Cond.selects RX5 yX5_haveRisk yX5_haveRisk, Cond.code yX5_haveRisk cX5_haveRisk 3 (some .boolean), Cond.methodLink RX5 103 yX5_laysAsTheyAre, Cond.instanceMethod yX5_laysAsTheyAre, Cond.selects RX5 yX5_laysAsTheyAre yX5_laysAsTheyAre, Cond.code yX5_laysAsTheyAre cX5_laysAsTheyAre 3 none, Cond.methodLink RX5 73 yX5_lays, Cond.instanceMethod yX5_lays, Cond.selects RX5 yX5_lays yX5_lays, Cond.code yX5_lays cX5_lays 5 none]
def wsX5_does_r6 : List Cond := [Cond.fieldLink RX5 57 "PastAndClearModel" "placeX" "J", Cond.fieldLink RX5 61 "PastAndClearModel" "placeY" "J", Cond.fieldLink RX5 67 "PastAndClearModel" "speedX" "J", Cond.fieldLink RX5 70 "PastAndClearModel" "speedY" "J", Cond.methodLink RX5 107 yX5_isRisk, Cond.instanceMethod yX5_isRisk, Cond.selects RX5 yX5_isRisk yX5_isRisk, Cond.code yX5_isRisk cX5_isRisk 3 (some .boolean), Cond.fieldLink RX5 90 "PastAndClearModel" "farAbove" "J", Cond.fieldLink RX5 93 "PastAndClearModel" "farBelow" "J", Cond.fieldLink RX5 81 "PastAndClearModel" "timeAbove" "J", Cond.fieldLink RX5 84 "PastAndClearModel" "timeBelow" "J", Cond.methodLink RX5 100 yX5_findsClosest, Cond.instanceMethod yX5_findsClosest, Cond.selects RX5 yX5_findsClosest yX5_findsClosest, Cond.code yX5_findsClosest cX5_findsClosest 7 none, Cond.methodLink RX5 77 yX5_towards, Cond.instanceMethod yX5_towards, Cond.selects RX5 yX5_towards yX5_towards, Cond.code yX5_towards cX5_towards 1 (some .long), Cond.methodLink RX5 87 yX5_squareAway, Cond.instanceMethod yX5_squareAway, Cond.selects RX5 yX5_squareAway yX5_squareAway, Cond.code yX5_squareAway cX5_squareAway 1 (some .long)]
def wsX5_does_r7 : List Cond := [Cond.methodLink RX5 96 yX5_common, Cond.static yX5_common, Cond.code yX5_common cX5_common 10 (some .long), Cond.methodLink RX5 119 yX5_sectorOf, Cond.instanceMethod yX5_sectorOf, Cond.selects RX5 yX5_sectorOf yX5_sectorOf, Cond.code yX5_sectorOf cX5_sectorOf 13 (some .int), Cond.constantLong RX5 111 (4), Cond.constantLong RX5 113 (-2), Cond.methodLink RX5 142 yX5_isPastAndClear, Cond.instanceMethod yX5_isPastAndClear, Cond.selects RX5 yX5_isPastAndClear yX5_isPastAndClear, Cond.code yX5_isPastAndClear cX5_isPastAndClear 4 (some .boolean), Cond.methodLink RX5 190 yX5_putObeyed, Cond.instanceMethod yX5_putObeyed, Cond.selects RX5 yX5_putObeyed yX5_putObeyed, Cond.code yX5_putObeyed cX5_putObeyed 2 (some .int), Cond.methodLink RX5 161 yX5_adviceFor, Cond.instanceMethod yX5_adviceFor, Cond.selects RX5 yX5_adviceFor yX5_adviceFor, Cond.code yX5_adviceFor cX5_adviceFor 5 (some .int), Cond.methodLink RX5 155 yX5_mustGiveWay, Cond.instanceMethod yX5_mustGiveWay, Cond.selects RX5 yX5_mustGiveWay yX5_mustGiveWay]
def wsX5_does_r8 : List Cond := [Cond.code yX5_mustGiveWay cX5_mustGiveWay 4 (some .boolean), Cond.methodLink RX5 158 yX5_isClear, Cond.instanceMethod yX5_isClear, Cond.selects RX5 yX5_isClear yX5_isClear, Cond.code yX5_isClear cX5_isClear 6 (some .boolean), Cond.methodLink RX5 184 yX5_putSetting, Cond.instanceMethod yX5_putSetting, Cond.selects RX5 yX5_putSetting yX5_putSetting, Cond.code yX5_putSetting cX5_putSetting 4 (some .int), Cond.methodLink RX5 39 yX5_remembers, Cond.instanceMethod yX5_remembers, Cond.selects RX5 yX5_remembers yX5_remembers, Cond.code yX5_remembers cX5_remembers 2 none, Cond.fieldLink RX5 31 "PastAndClearModel" "states" "I", Cond.fieldLink RX5 16 "PastAndClearModel" "past" "[I"]
def wsX5_does : List Cond := .code yX5_does cX5_does 3 (some .int) :: ((wsX5_does_r1 ++ (wsX5_does_r2 ++ (wsX5_does_r3 ++ (wsX5_does_r4 ++ (wsX5_does_r5 ++ (wsX5_does_r6 ++ (wsX5_does_r7 ++ wsX5_does_r8))))))) ++ wsX50)
def wsX5_toldOf : List Cond := .code yX5_toldOf cX5_toldOf 2 (some .int) :: ([.fieldLink RX5 19 "PastAndClearModel" "refusals" "[I", .fieldLink RX5 209 "PastAndClearModel" "bytes" "I", .fieldLink RX5 31 "PastAndClearModel" "states" "I"] ++ wsX50)
def wsX5_told : List Cond := .code yX5_told cX5_told 2 (some .int) :: ([.methodLink RX5 42 yX5_in, .static yX5_in, .initialized RX5, .code yX5_in cX5_in 3 (some .boolean), .methodLink RX5 246 yX5_toldOf, .instanceMethod yX5_toldOf, .selects RX5 yX5_toldOf yX5_toldOf, .code yX5_toldOf cX5_toldOf 2 (some .int), .fieldLink RX5 19 "PastAndClearModel" "refusals" "[I", .fieldLink RX5 209 "PastAndClearModel" "bytes" "I", .fieldLink RX5 31 "PastAndClearModel" "states" "I", .methodLink RX5 35 yX5_refuses, .instanceMethod yX5_refuses, .selects RX5 yX5_refuses yX5_refuses, .code yX5_refuses cX5_refuses 2 (some .int)] ++ wsX50)
def wsX5_mix : List Cond := .code yX5_mix cX5_mix 3 none :: ([.constantLong RX5 249 (31), .fieldLink RX5 251 "PastAndClearModel" "hash" "J"] ++ wsX50)
def wsX5_digest_r1 : List Cond := [Cond.constantLong RX5 254 (1934), Cond.fieldLink RX5 251 "PastAndClearModel" "hash" "J", Cond.fieldLink RX5 7 "PastAndClearModel" "now" "[I", Cond.methodLink RX5 246 yX5_toldOf, Cond.instanceMethod yX5_toldOf, Cond.selects RX5 yX5_toldOf yX5_toldOf, Cond.initialized RX5, Cond.code yX5_toldOf cX5_toldOf 2 (some .int), Cond.fieldLink RX5 19 "PastAndClearModel" "refusals" "[I", Cond.fieldLink RX5 209 "PastAndClearModel" "bytes" "I", Cond.fieldLink RX5 31 "PastAndClearModel" "states" "I", Cond.methodLink RX5 256 yX5_mix, Cond.instanceMethod yX5_mix, Cond.selects RX5 yX5_mix yX5_mix, Cond.code yX5_mix cX5_mix 3 none, Cond.constantLong RX5 249 (31), Cond.methodLink RX5 206 yX5_countOf, Cond.instanceMethod yX5_countOf, Cond.selects RX5 yX5_countOf yX5_countOf, Cond.code yX5_countOf cX5_countOf 2 (some .int), Cond.methodLink RX5 193 yX5_told0, Cond.instanceMethod yX5_told0, Cond.selects RX5 yX5_told0 yX5_told0, Cond.code yX5_told0 cX5_told0 3 (some .int)]
def wsX5_digest_r2 : List Cond := [Cond.methodLink RX5 53 yX5_shipOf, Cond.instanceMethod yX5_shipOf, Cond.selects RX5 yX5_shipOf yX5_shipOf, Cond.code yX5_shipOf cX5_shipOf 3 (some .int), Cond.methodLink RX5 145 yX5_eastSpeed, Cond.instanceMethod yX5_eastSpeed, Cond.selects RX5 yX5_eastSpeed yX5_eastSpeed, Cond.code yX5_eastSpeed cX5_eastSpeed 2 (some .int), Cond.methodLink RX5 64 yX5_eastOf, Cond.static yX5_eastOf, Cond.code yX5_eastOf cX5_eastOf 1 (some .int), Cond.methodLink RX5 50 yX5_northOf, Cond.static yX5_northOf, Cond.code yX5_northOf cX5_northOf 4 (some .int), Cond.methodLink RX5 148 yX5_northSpeed, Cond.instanceMethod yX5_northSpeed, Cond.selects RX5 yX5_northSpeed yX5_northSpeed, Cond.code yX5_northSpeed cX5_northSpeed 2 (some .int), Cond.methodLink RX5 161 yX5_adviceFor, Cond.instanceMethod yX5_adviceFor, Cond.selects RX5 yX5_adviceFor yX5_adviceFor, Cond.code yX5_adviceFor cX5_adviceFor 5 (some .int), Cond.methodLink RX5 155 yX5_mustGiveWay, Cond.instanceMethod yX5_mustGiveWay]
def wsX5_digest_r3 : List Cond := [Cond.selects RX5 yX5_mustGiveWay yX5_mustGiveWay, Cond.code yX5_mustGiveWay cX5_mustGiveWay 4 (some .boolean), Cond.methodLink RX5 139 yX5_tableOf, Cond.instanceMethod yX5_tableOf, Cond.selects RX5 yX5_tableOf yX5_tableOf, Cond.code yX5_tableOf cX5_tableOf 5 (some .int), Cond.methodLink RX5 115 yX5_haveRisk, Cond.instanceMethod yX5_haveRisk, Cond.selects RX5 yX5_haveRisk yX5_haveRisk, Cond.code yX5_haveRisk cX5_haveRisk 3 (some .boolean), Cond.methodLink RX5 103 yX5_laysAsTheyAre, Cond.instanceMethod yX5_laysAsTheyAre, Cond.selects RX5 yX5_laysAsTheyAre yX5_laysAsTheyAre, Cond.code yX5_laysAsTheyAre cX5_laysAsTheyAre 3 none, Cond.methodLink RX5 73 yX5_lays, Cond.instanceMethod yX5_lays, Cond.selects RX5 yX5_lays yX5_lays, Cond.code yX5_lays cX5_lays 5 none, Cond.fieldLink RX5 57 "PastAndClearModel" "placeX" "J", Cond.fieldLink RX5 61 "PastAndClearModel" "placeY" "J", Cond.fieldLink RX5 67 "PastAndClearModel" "speedX" "J", Cond.fieldLink RX5 70 "PastAndClearModel" "speedY" "J", Cond.methodLink RX5 107 yX5_isRisk, Cond.instanceMethod yX5_isRisk]
def wsX5_digest_r4 : List Cond := [Cond.selects RX5 yX5_isRisk yX5_isRisk, Cond.code yX5_isRisk cX5_isRisk 3 (some .boolean), Cond.fieldLink RX5 90 "PastAndClearModel" "farAbove" "J", Cond.fieldLink RX5 93 "PastAndClearModel" "farBelow" "J", Cond.fieldLink RX5 81 "PastAndClearModel" "timeAbove" "J", Cond.fieldLink RX5 84 "PastAndClearModel" "timeBelow" "J", Cond.methodLink RX5 100 yX5_findsClosest, Cond.instanceMethod yX5_findsClosest, Cond.selects RX5 yX5_findsClosest yX5_findsClosest, Cond.code yX5_findsClosest cX5_findsClosest 7 none, Cond.methodLink RX5 77 yX5_towards, Cond.instanceMethod yX5_towards, Cond.selects RX5 yX5_towards yX5_towards, Cond.code yX5_towards cX5_towards 1 (some .long), Cond.methodLink RX5 87 yX5_squareAway, Cond.instanceMethod yX5_squareAway, Cond.selects RX5 yX5_squareAway yX5_squareAway, Cond.code yX5_squareAway cX5_squareAway 1 (some .long), Cond.methodLink RX5 96 yX5_common, Cond.static yX5_common, Cond.code yX5_common cX5_common 10 (some .long), Cond.methodLink RX5 119 yX5_sectorOf, Cond.instanceMethod yX5_sectorOf, Cond.selects RX5 yX5_sectorOf yX5_sectorOf]
def wsX5_digest_r5 : List Cond := [Cond.code yX5_sectorOf cX5_sectorOf 13 (some .int), Cond.constantLong RX5 111 (4), Cond.constantLong RX5 113 (-2), Cond.methodLink RX5 158 yX5_isClear, Cond.instanceMethod yX5_isClear, Cond.selects RX5 yX5_isClear yX5_isClear, Cond.code yX5_isClear cX5_isClear 6 (some .boolean), Cond.methodLink RX5 199 yX5_closestOf, Cond.instanceMethod yX5_closestOf, Cond.selects RX5 yX5_closestOf yX5_closestOf, Cond.code yX5_closestOf cX5_closestOf 4 (some .long), Cond.methodLink RX5 203 yX5_blockedBy, Cond.instanceMethod yX5_blockedBy, Cond.selects RX5 yX5_blockedBy yX5_blockedBy, Cond.code yX5_blockedBy cX5_blockedBy 4 (some .int), Cond.methodLink RX5 260 yX5_worst, Cond.instanceMethod yX5_worst, Cond.selects RX5 yX5_worst yX5_worst, Cond.code yX5_worst cX5_worst 15 (some .int)]
def wsX5_digest : List Cond := .code yX5_digest cX5_digest 3 (some .long) :: ((wsX5_digest_r1 ++ (wsX5_digest_r2 ++ (wsX5_digest_r3 ++ (wsX5_digest_r4 ++ wsX5_digest_r5)))) ++ wsX50)
def wsJ9_abs_0f7a4 : List Cond := .code yJ9_abs_0f7a4 cJ9_abs_0f7a4 1 (some .int) :: ([])
def wsL_law_r1 : List Cond := [Cond.classLink RL 7 RX4, Cond.instantiable RX4 6, Cond.initialized RX4, Cond.classLink RL 10 RX5, Cond.instantiable RX5 21, Cond.initialized RX5, Cond.methodLink RL 9 yX4_init, Cond.instanceMethod yX4_init, Cond.code yX4_init cX4_init 1 none, Cond.methodLink RX4 1 objectInit, Cond.instanceMethod objectInit, Cond.code objectInit ⟨#[0xb1]⟩ 1 none, Cond.classLink RX4 7 RX1, Cond.instantiable RX1 3, Cond.initialized RX1, Cond.fieldLink RX4 10 "PastAndClear" "fleet" "LPastAndClear$Fleet;", Cond.classLink RX4 16 RX2, Cond.instantiable RX2 2, Cond.initialized RX2, Cond.fieldLink RX4 19 "PastAndClear" "history" "LPastAndClear$History;", Cond.classLink RX4 23 RX3, Cond.instantiable RX3 5, Cond.initialized RX3, Cond.fieldLink RX4 26 "PastAndClear" "script" "LPastAndClear$Script;"]
def wsL_law_r2 : List Cond := [Cond.methodLink RX4 9 yX1_init, Cond.instanceMethod yX1_init, Cond.code yX1_init cX1_init 1 none, Cond.methodLink RX1 3 objectInit, Cond.arrayClass .int, Cond.fieldLink RX1 11 "PastAndClear$Fleet" "cells" "[I", Cond.classLink RX1 15 RX0, Cond.instantiable RX0 4, Cond.initialized RX0, Cond.fieldLink RX1 18 "PastAndClear$Fleet" "approach" "LPastAndClear$Approach;", Cond.fieldLink RX1 22 "PastAndClear$Fleet" "worstYet" "LPastAndClear$Approach;", Cond.methodLink RX1 17 yX0_init, Cond.instanceMethod yX0_init, Cond.code yX0_init cX0_init 1 none, Cond.methodLink RX0 1 objectInit, Cond.fieldLink RX0 7 "PastAndClear$Approach" "timeBelow" "J", Cond.fieldLink RX0 13 "PastAndClear$Approach" "nearBelow" "J", Cond.methodLink RX4 18 yX2_init, Cond.instanceMethod yX2_init, Cond.code yX2_init cX2_init 1 none, Cond.methodLink RX2 1 objectInit, Cond.fieldLink RX2 11 "PastAndClear$History" "rows" "[I", Cond.methodLink RX4 25 yX3_init, Cond.instanceMethod yX3_init]
def wsL_law_r3 : List Cond := [Cond.code yX3_init cX3_init 1 none, Cond.methodLink RX3 5 objectInit, Cond.arrayClass .byte, Cond.fieldLink RX3 11 "PastAndClear$Script" "bytes" "[B", Cond.fieldLink RX3 15 "PastAndClear$Script" "numbers" "[I", Cond.methodLink RL 12 yX5_init, Cond.instanceMethod yX5_init, Cond.code yX5_init cX5_init 1 none, Cond.methodLink RX5 1 objectInit, Cond.fieldLink RX5 7 "PastAndClearModel" "now" "[I", Cond.fieldLink RX5 13 "PastAndClearModel" "aside" "[I", Cond.fieldLink RX5 16 "PastAndClearModel" "past" "[I", Cond.fieldLink RX5 19 "PastAndClearModel" "refusals" "[I", Cond.fieldLink RX5 22 "PastAndClearModel" "text" "[I", Cond.fieldLink RX5 25 "PastAndClearModel" "letters" "[I", Cond.fieldLink RX5 28 "PastAndClearModel" "numbers" "[I", Cond.methodLink RL 13 yX4_adds, Cond.instanceMethod yX4_adds, Cond.selects RX4 yX4_adds yX4_adds, Cond.code yX4_adds cX4_adds 5 (some .int), Cond.fieldLink RX4 30 "PastAndClear$Fleet" "cells" "[I", Cond.methodLink RX4 34 yX2_mark, Cond.instanceMethod yX2_mark, Cond.selects RX2 yX2_mark yX2_mark]
def wsL_law_r4 : List Cond := [Cond.code yX2_mark cX2_mark 2 none, Cond.fieldLink RX2 15 "PastAndClear$History" "kept" "I", Cond.methodLink RX2 19 arraycopyName, Cond.native arraycopyName, Cond.static arraycopyName, Cond.initialized "java/lang/System", Cond.methodLink RX4 38 yX1_join, Cond.instanceMethod yX1_join, Cond.selects RX1 yX1_join yX1_join, Cond.code yX1_join cX1_join 5 (some .int), Cond.methodLink RX1 42 yX1_isPlace, Cond.static yX1_isPlace, Cond.code yX1_isPlace cX1_isPlace 1 (some .boolean), Cond.static yX4_isCourse, Cond.code yX4_isCourse cX4_isCourse 2 (some .boolean), Cond.methodLink RX1 49 yX1_put, Cond.instanceMethod yX1_put, Cond.selects RX1 yX1_put yX1_put, Cond.code yX1_put cX1_put 7 none, Cond.methodLink RX4 42 yX4_changed, Cond.instanceMethod yX4_changed, Cond.selects RX4 yX4_changed yX4_changed, Cond.code yX4_changed cX4_changed 2 (some .int), Cond.methodLink RX4 153 yX4_isRefusal]
def wsL_law_r5 : List Cond := [Cond.static yX4_isRefusal, Cond.code yX4_isRefusal cX4_isRefusal 1 (some .boolean), Cond.methodLink RX4 159 yX2_keep, Cond.instanceMethod yX2_keep, Cond.selects RX2 yX2_keep yX2_keep, Cond.code yX2_keep cX2_keep 1 none, Cond.methodLink RX4 80 yX4_answered, Cond.instanceMethod yX4_answered, Cond.selects RX4 yX4_answered yX4_answered, Cond.code yX4_answered cX4_answered 2 (some .int), Cond.fieldLink RX4 192 "PastAndClear" "bads" "I", Cond.fieldLink RX4 195 "PastAndClear" "noes" "I", Cond.fieldLink RX4 198 "PastAndClear" "fulls" "I", Cond.methodLink RL 17 yX5_adds, Cond.instanceMethod yX5_adds, Cond.selects RX5 yX5_adds yX5_adds, Cond.code yX5_adds cX5_adds 5 (some .int), Cond.methodLink RX5 164 yX5_laysAside, Cond.instanceMethod yX5_laysAside, Cond.selects RX5 yX5_laysAside yX5_laysAside, Cond.code yX5_laysAside cX5_laysAside 2 none, Cond.methodLink RX5 167 yX5_putOther, Cond.instanceMethod yX5_putOther, Cond.selects RX5 yX5_putOther yX5_putOther]
def wsL_law_r6 : List Cond := [Cond.code yX5_putOther cX5_putOther 6 (some .int), Cond.methodLink RX5 122 yX5_isPlace, Cond.static yX5_isPlace, Cond.code yX5_isPlace cX5_isPlace 2 (some .boolean), Cond.methodLink RX5 42 yX5_in, Cond.static yX5_in, Cond.code yX5_in cX5_in 3 (some .boolean), Cond.methodLink RX5 125 yX5_isCourse, Cond.static yX5_isCourse, Cond.code yX5_isCourse cX5_isCourse 2 (some .boolean), Cond.methodLink RX5 128 yX5_puts, Cond.instanceMethod yX5_puts, Cond.selects RX5 yX5_puts yX5_puts, Cond.code yX5_puts cX5_puts 6 none, Cond.methodLink RX5 132 yX5_tells, Cond.instanceMethod yX5_tells, Cond.selects RX5 yX5_tells yX5_tells, Cond.code yX5_tells cX5_tells 4 none, Cond.methodLink RX5 171 yX5_finished, Cond.instanceMethod yX5_finished, Cond.selects RX5 yX5_finished yX5_finished, Cond.code yX5_finished cX5_finished 2 (some .int), Cond.methodLink RX5 35 yX5_refuses, Cond.instanceMethod yX5_refuses]
def wsL_law_r7 : List Cond := [Cond.selects RX5 yX5_refuses yX5_refuses, Cond.code yX5_refuses cX5_refuses 2 (some .int), Cond.methodLink RX5 39 yX5_remembers, Cond.instanceMethod yX5_remembers, Cond.selects RX5 yX5_remembers yX5_remembers, Cond.code yX5_remembers cX5_remembers 2 none, Cond.fieldLink RX5 31 "PastAndClearModel" "states" "I", Cond.methodLink RL 18 yX4_own, Cond.instanceMethod yX4_own, Cond.selects RX4 yX4_own yX4_own, Cond.code yX4_own cX4_own 5 (some .int), Cond.methodLink RX4 46 yX1_placeOwn, Cond.instanceMethod yX1_placeOwn, Cond.selects RX1 yX1_placeOwn yX1_placeOwn, Cond.code yX1_placeOwn cX1_placeOwn 6 (some .int), Cond.methodLink RL 21 yX5_own, Cond.instanceMethod yX5_own, Cond.selects RX5 yX5_own yX5_own, Cond.code yX5_own cX5_own 5 (some .int), Cond.methodLink RX5 174 yX5_putOwn, Cond.instanceMethod yX5_putOwn, Cond.selects RX5 yX5_putOwn yX5_putOwn, Cond.code yX5_putOwn cX5_putOwn 6 (some .int), Cond.methodLink RL 22 yX4_drops]
def wsL_law_r8 : List Cond := [Cond.instanceMethod yX4_drops, Cond.selects RX4 yX4_drops yX4_drops, Cond.code yX4_drops cX4_drops 2 (some .int), Cond.methodLink RX4 49 yX1_leave, Cond.instanceMethod yX1_leave, Cond.selects RX1 yX1_leave yX1_leave, Cond.code yX1_leave cX1_leave 3 (some .int), Cond.methodLink RX1 56 arraycopyName, Cond.methodLink RX1 53 yX1_isOther, Cond.instanceMethod yX1_isOther, Cond.selects RX1 yX1_isOther yX1_isOther, Cond.code yX1_isOther cX1_isOther 2 (some .boolean), Cond.methodLink RL 26 yX5_drops, Cond.instanceMethod yX5_drops, Cond.selects RX5 yX5_drops yX5_drops, Cond.code yX5_drops cX5_drops 2 (some .int), Cond.methodLink RX5 177 yX5_putAway, Cond.instanceMethod yX5_putAway, Cond.selects RX5 yX5_putAway yX5_putAway, Cond.code yX5_putAway cX5_putAway 3 (some .int), Cond.methodLink RX5 136 yX5_isOther, Cond.instanceMethod yX5_isOther, Cond.selects RX5 yX5_isOther yX5_isOther, Cond.code yX5_isOther cX5_isOther 2 (some .boolean)]
def wsL_law_r9 : List Cond := [Cond.methodLink RX5 46 yX5_isShip, Cond.instanceMethod yX5_isShip, Cond.selects RX5 yX5_isShip yX5_isShip, Cond.code yX5_isShip cX5_isShip 2 (some .boolean), Cond.methodLink RL 27 yX4_veers, Cond.instanceMethod yX4_veers, Cond.selects RX4 yX4_veers yX4_veers, Cond.code yX4_veers cX4_veers 4 (some .int), Cond.methodLink RX4 52 yX1_steer, Cond.instanceMethod yX1_steer, Cond.selects RX1 yX1_steer yX1_steer, Cond.code yX1_steer cX1_steer 5 (some .int), Cond.methodLink RX1 25 yX1_isShip, Cond.instanceMethod yX1_isShip, Cond.selects RX1 yX1_isShip yX1_isShip, Cond.code yX1_isShip cX1_isShip 2 (some .boolean), Cond.methodLink RL 31 yX5_veers, Cond.instanceMethod yX5_veers, Cond.selects RX5 yX5_veers yX5_veers, Cond.code yX5_veers cX5_veers 4 (some .int), Cond.methodLink RX5 180 yX5_putCourse, Cond.instanceMethod yX5_putCourse, Cond.selects RX5 yX5_putCourse yX5_putCourse, Cond.code yX5_putCourse cX5_putCourse 5 (some .int)]
def wsL_law_r10 : List Cond := [Cond.methodLink RX5 53 yX5_shipOf, Cond.instanceMethod yX5_shipOf, Cond.selects RX5 yX5_shipOf yX5_shipOf, Cond.code yX5_shipOf cX5_shipOf 3 (some .int), Cond.methodLink RL 32 yX4_sets, Cond.instanceMethod yX4_sets, Cond.selects RX4 yX4_sets yX4_sets, Cond.code yX4_sets cX4_sets 3 (some .int), Cond.methodLink RX4 56 yX1_setRule, Cond.instanceMethod yX1_setRule, Cond.selects RX1 yX1_setRule yX1_setRule, Cond.code yX1_setRule cX1_setRule 4 (some .int), Cond.methodLink RL 36 yX5_sets, Cond.instanceMethod yX5_sets, Cond.selects RX5 yX5_sets yX5_sets, Cond.code yX5_sets cX5_sets 3 (some .int), Cond.methodLink RX5 184 yX5_putSetting, Cond.instanceMethod yX5_putSetting, Cond.selects RX5 yX5_putSetting yX5_putSetting, Cond.code yX5_putSetting cX5_putSetting 4 (some .int), Cond.methodLink RL 37 yX4_steps, Cond.instanceMethod yX4_steps, Cond.selects RX4 yX4_steps yX4_steps, Cond.code yX4_steps cX4_steps 2 (some .int)]
def wsL_law_r11 : List Cond := [Cond.methodLink RX4 60 yX1_goOn, Cond.instanceMethod yX1_goOn, Cond.selects RX1 yX1_goOn yX1_goOn, Cond.code yX1_goOn cX1_goOn 3 (some .int), Cond.methodLink RX1 62 yX1_staysInside, Cond.instanceMethod yX1_staysInside, Cond.selects RX1 yX1_staysInside yX1_staysInside, Cond.code yX1_staysInside cX1_staysInside 3 (some .boolean), Cond.methodLink RX1 29 yX1_eastward, Cond.instanceMethod yX1_eastward, Cond.selects RX1 yX1_eastward yX1_eastward, Cond.code yX1_eastward cX1_eastward 2 (some .int), Cond.fieldLink RX1 36 "PastAndClear$Fleet" "EAST" "[I", Cond.methodLink RX1 33 yX1_northward, Cond.instanceMethod yX1_northward, Cond.selects RX1 yX1_northward yX1_northward, Cond.code yX1_northward cX1_northward 2 (some .int), Cond.fieldLink RX1 39 "PastAndClear$Fleet" "NORTH" "[I", Cond.methodLink RX1 65 yX1_moveAll, Cond.instanceMethod yX1_moveAll, Cond.selects RX1 yX1_moveAll yX1_moveAll, Cond.code yX1_moveAll cX1_moveAll 2 none, Cond.methodLink RX1 68 yX1_look, Cond.instanceMethod yX1_look]
def wsL_law_r12 : List Cond := [Cond.selects RX1 yX1_look yX1_look, Cond.code yX1_look cX1_look 2 none, Cond.methodLink RX1 75 yX1_tableOf, Cond.instanceMethod yX1_tableOf, Cond.selects RX1 yX1_tableOf yX1_tableOf, Cond.code yX1_tableOf cX1_tableOf 5 (some .int), Cond.methodLink RX1 113 yX1_haveRisk, Cond.instanceMethod yX1_haveRisk, Cond.selects RX1 yX1_haveRisk yX1_haveRisk, Cond.code yX1_haveRisk cX1_haveRisk 3 (some .boolean), Cond.methodLink RX1 87 yX1_measure, Cond.instanceMethod yX1_measure, Cond.selects RX1 yX1_measure yX1_measure, Cond.code yX1_measure cX1_measure 19 none, Cond.fieldLink RX1 95 "PastAndClear$Approach" "timeAbove" "J", Cond.fieldLink RX1 99 "PastAndClear$Approach" "timeBelow" "J", Cond.fieldLink RX1 102 "PastAndClear$Approach" "nearAbove" "J", Cond.fieldLink RX1 105 "PastAndClear$Approach" "nearBelow" "J", Cond.methodLink RX1 91 yX0_isRisk, Cond.instanceMethod yX0_isRisk, Cond.selects RX0 yX0_isRisk yX0_isRisk, Cond.code yX0_isRisk cX0_isRisk 5 (some .boolean), Cond.fieldLink RX0 19 "PastAndClear$Approach" "nearAbove" "J", Cond.fieldLink RX0 16 "PastAndClear$Approach" "timeAbove" "J"]
def wsL_law_r13 : List Cond := [Cond.methodLink RX1 116 yX1_sectorOf, Cond.instanceMethod yX1_sectorOf, Cond.selects RX1 yX1_sectorOf yX1_sectorOf, Cond.code yX1_sectorOf cX1_sectorOf 9 (some .int), Cond.methodLink RX1 108 Lib.Math.abs.name, Cond.static Lib.Math.abs.name, Cond.initialized "java/lang/Math", Cond.code Lib.Math.abs.name Lib.Math.abs.code 1 (some .int), Cond.methodLink RX1 79 yX1_approachOf, Cond.instanceMethod yX1_approachOf, Cond.selects RX1 yX1_approachOf yX1_approachOf, Cond.code yX1_approachOf cX1_approachOf 3 (some (.object "PastAndClear$Approach")), Cond.methodLink RX1 83 yX0_isPastAndClear, Cond.instanceMethod yX0_isPastAndClear, Cond.selects RX0 yX0_isPastAndClear yX0_isPastAndClear, Cond.code yX0_isPastAndClear cX0_isPastAndClear 3 (some .boolean), Cond.methodLink RX1 71 yX1_givenWay, Cond.instanceMethod yX1_givenWay, Cond.selects RX1 yX1_givenWay yX1_givenWay, Cond.code yX1_givenWay cX1_givenWay 3 (some .int), Cond.methodLink RL 40 yX5_steps, Cond.instanceMethod yX5_steps, Cond.selects RX5 yX5_steps yX5_steps, Cond.code yX5_steps cX5_steps 2 (some .int)]
def wsL_law_r14 : List Cond := [Cond.methodLink RX5 187 yX5_putSteps, Cond.instanceMethod yX5_putSteps, Cond.selects RX5 yX5_putSteps yX5_putSteps, Cond.code yX5_putSteps cX5_putSteps 5 (some .int), Cond.methodLink RX5 145 yX5_eastSpeed, Cond.instanceMethod yX5_eastSpeed, Cond.selects RX5 yX5_eastSpeed yX5_eastSpeed, Cond.code yX5_eastSpeed cX5_eastSpeed 2 (some .int), Cond.methodLink RX5 64 yX5_eastOf, Cond.static yX5_eastOf, Cond.code yX5_eastOf cX5_eastOf 1 (some .int), Cond.methodLink RX5 50 yX5_northOf, Cond.static yX5_northOf, Cond.code yX5_northOf cX5_northOf 4 (some .int), Cond.methodLink RX5 148 yX5_northSpeed, Cond.instanceMethod yX5_northSpeed, Cond.selects RX5 yX5_northSpeed yX5_northSpeed, Cond.code yX5_northSpeed cX5_northSpeed 2 (some .int), Cond.methodLink RX5 151 yX5_look, Cond.instanceMethod yX5_look, Cond.selects RX5 yX5_look yX5_look, Cond.code yX5_look cX5_look 5 (some .int), Cond.methodLink RX5 139 yX5_tableOf, Cond.instanceMethod yX5_tableOf]
def wsL_law_r15 : List Cond := [Cond.selects RX5 yX5_tableOf yX5_tableOf, Cond.code yX5_tableOf cX5_tableOf 5 (some .int), Cond.methodLink RX5 115 yX5_haveRisk, Cond.instanceMethod yX5_haveRisk, Cond.selects RX5 yX5_haveRisk yX5_haveRisk, Cond.code yX5_haveRisk cX5_haveRisk 3 (some .boolean), Cond.methodLink RX5 103 yX5_laysAsTheyAre, Cond.instanceMethod yX5_laysAsTheyAre, Cond.selects RX5 yX5_laysAsTheyAre yX5_laysAsTheyAre, Cond.code yX5_laysAsTheyAre cX5_laysAsTheyAre 3 none, Cond.methodLink RX5 73 yX5_lays, Cond.instanceMethod yX5_lays, Cond.selects RX5 yX5_lays yX5_lays, Cond.code yX5_lays cX5_lays 5 none, Cond.fieldLink RX5 57 "PastAndClearModel" "placeX" "J", Cond.fieldLink RX5 61 "PastAndClearModel" "placeY" "J", Cond.fieldLink RX5 67 "PastAndClearModel" "speedX" "J", Cond.fieldLink RX5 70 "PastAndClearModel" "speedY" "J", Cond.methodLink RX5 107 yX5_isRisk, Cond.instanceMethod yX5_isRisk, Cond.selects RX5 yX5_isRisk yX5_isRisk, Cond.code yX5_isRisk cX5_isRisk 3 (some .boolean), Cond.fieldLink RX5 90 "PastAndClearModel" "farAbove" "J", Cond.fieldLink RX5 93 "PastAndClearModel" "farBelow" "J"]
def wsL_law_r16 : List Cond := [Cond.fieldLink RX5 81 "PastAndClearModel" "timeAbove" "J", Cond.fieldLink RX5 84 "PastAndClearModel" "timeBelow" "J", Cond.methodLink RX5 100 yX5_findsClosest, Cond.instanceMethod yX5_findsClosest, Cond.selects RX5 yX5_findsClosest yX5_findsClosest, Cond.code yX5_findsClosest cX5_findsClosest 7 none, Cond.methodLink RX5 77 yX5_towards, Cond.instanceMethod yX5_towards, Cond.selects RX5 yX5_towards yX5_towards, Cond.code yX5_towards cX5_towards 1 (some .long), Cond.methodLink RX5 87 yX5_squareAway, Cond.instanceMethod yX5_squareAway, Cond.selects RX5 yX5_squareAway yX5_squareAway, Cond.code yX5_squareAway cX5_squareAway 1 (some .long), Cond.methodLink RX5 96 yX5_common, Cond.static yX5_common, Cond.code yX5_common cX5_common 10 (some .long), Cond.methodLink RX5 119 yX5_sectorOf, Cond.instanceMethod yX5_sectorOf, Cond.selects RX5 yX5_sectorOf yX5_sectorOf, Cond.code yX5_sectorOf cX5_sectorOf 13 (some .int), Cond.constantLong RX5 111 (4), Cond.constantLong RX5 113 (-2), Cond.methodLink RX5 142 yX5_isPastAndClear]
def wsL_law_r17 : List Cond := [Cond.instanceMethod yX5_isPastAndClear, Cond.selects RX5 yX5_isPastAndClear yX5_isPastAndClear, Cond.code yX5_isPastAndClear cX5_isPastAndClear 4 (some .boolean), Cond.methodLink RL 41 yX4_looks, Cond.instanceMethod yX4_looks, Cond.selects RX4 yX4_looks yX4_looks, Cond.code yX4_looks cX4_looks 1 (some .int), Cond.methodLink RX4 63 yX1_look, Cond.methodLink RX4 66 yX1_givenWay, Cond.methodLink RL 45 yX5_looks, Cond.instanceMethod yX5_looks, Cond.selects RX5 yX5_looks yX5_looks, Cond.code yX5_looks cX5_looks 1 (some .int), Cond.methodLink RL 46 yX4_obeys, Cond.instanceMethod yX4_obeys, Cond.selects RX4 yX4_obeys yX4_obeys, Cond.code yX4_obeys cX4_obeys 1 (some .int), Cond.methodLink RX4 70 yX1_adviceFor, Cond.instanceMethod yX1_adviceFor, Cond.selects RX1 yX1_adviceFor yX1_adviceFor, Cond.code yX1_adviceFor cX1_adviceFor 2 (some .int), Cond.methodLink RX1 131 yX1_mustGiveWay, Cond.instanceMethod yX1_mustGiveWay, Cond.selects RX1 yX1_mustGiveWay yX1_mustGiveWay]
def wsL_law_r18 : List Cond := [Cond.code yX1_mustGiveWay cX1_mustGiveWay 3 (some .boolean), Cond.methodLink RX1 134 yX1_turnFor, Cond.instanceMethod yX1_turnFor, Cond.selects RX1 yX1_turnFor yX1_turnFor, Cond.code yX1_turnFor cX1_turnFor 6 (some .int), Cond.methodLink RX1 137 yX1_isClear, Cond.instanceMethod yX1_isClear, Cond.selects RX1 yX1_isClear yX1_isClear, Cond.code yX1_isClear cX1_isClear 5 (some .boolean), Cond.methodLink RX1 127 yX1_wouldRisk, Cond.instanceMethod yX1_wouldRisk, Cond.selects RX1 yX1_wouldRisk yX1_wouldRisk, Cond.code yX1_wouldRisk cX1_wouldRisk 5 (some .boolean), Cond.methodLink RX4 73 yX1_follow, Cond.instanceMethod yX1_follow, Cond.selects RX1 yX1_follow yX1_follow, Cond.code yX1_follow cX1_follow 2 (some .int), Cond.methodLink RL 49 yX5_obeys, Cond.instanceMethod yX5_obeys, Cond.selects RX5 yX5_obeys yX5_obeys, Cond.code yX5_obeys cX5_obeys 1 (some .int), Cond.methodLink RX5 190 yX5_putObeyed, Cond.instanceMethod yX5_putObeyed, Cond.selects RX5 yX5_putObeyed yX5_putObeyed]
def wsL_law_r19 : List Cond := [Cond.code yX5_putObeyed cX5_putObeyed 2 (some .int), Cond.methodLink RX5 161 yX5_adviceFor, Cond.instanceMethod yX5_adviceFor, Cond.selects RX5 yX5_adviceFor yX5_adviceFor, Cond.code yX5_adviceFor cX5_adviceFor 5 (some .int), Cond.methodLink RX5 155 yX5_mustGiveWay, Cond.instanceMethod yX5_mustGiveWay, Cond.selects RX5 yX5_mustGiveWay yX5_mustGiveWay, Cond.code yX5_mustGiveWay cX5_mustGiveWay 4 (some .boolean), Cond.methodLink RX5 158 yX5_isClear, Cond.instanceMethod yX5_isClear, Cond.selects RX5 yX5_isClear yX5_isClear, Cond.code yX5_isClear cX5_isClear 6 (some .boolean), Cond.methodLink RL 50 yX4_of, Cond.instanceMethod yX4_of, Cond.selects RX4 yX4_of yX4_of, Cond.code yX4_of cX4_of 3 (some .int), Cond.methodLink RX4 76 yX1_isShip, Cond.methodLink RX4 83 yX1_partOf, Cond.instanceMethod yX1_partOf, Cond.selects RX1 yX1_partOf yX1_partOf, Cond.code yX1_partOf cX1_partOf 3 (some .int), Cond.methodLink RL 53 yX5_of, Cond.instanceMethod yX5_of]
def wsL_law_r20 : List Cond := [Cond.selects RX5 yX5_of yX5_of, Cond.code yX5_of cX5_of 3 (some .int), Cond.methodLink RX5 193 yX5_told0, Cond.instanceMethod yX5_told0, Cond.selects RX5 yX5_told0 yX5_told0, Cond.code yX5_told0 cX5_told0 3 (some .int), Cond.methodLink RL 54 yX4_closest, Cond.instanceMethod yX4_closest, Cond.selects RX4 yX4_closest yX4_closest, Cond.code yX4_closest cX4_closest 4 (some .long), Cond.methodLink RX4 86 yX1_isPair, Cond.instanceMethod yX1_isPair, Cond.selects RX1 yX1_isPair yX1_isPair, Cond.code yX1_isPair cX1_isPair 3 (some .boolean), Cond.methodLink RX4 90 yX1_approachOf, Cond.methodLink RX4 94 yX0_part, Cond.instanceMethod yX0_part, Cond.selects RX0 yX0_part yX0_part, Cond.code yX0_part cX0_part 2 (some .long), Cond.methodLink RX0 22 yX0_lowest, Cond.static yX0_lowest, Cond.code yX0_lowest cX0_lowest 7 (some .long), Cond.methodLink RX0 26 yX0_sharedDivisor, Cond.static yX0_sharedDivisor]
def wsL_law_r21 : List Cond := [Cond.code yX0_sharedDivisor cX0_sharedDivisor 7 (some .long), Cond.methodLink RL 58 yX5_closest, Cond.instanceMethod yX5_closest, Cond.selects RX5 yX5_closest yX5_closest, Cond.code yX5_closest cX5_closest 4 (some .long), Cond.methodLink RX5 196 yX5_areTwo, Cond.instanceMethod yX5_areTwo, Cond.selects RX5 yX5_areTwo yX5_areTwo, Cond.code yX5_areTwo cX5_areTwo 3 (some .boolean), Cond.methodLink RX5 199 yX5_closestOf, Cond.instanceMethod yX5_closestOf, Cond.selects RX5 yX5_closestOf yX5_closestOf, Cond.code yX5_closestOf cX5_closestOf 4 (some .long), Cond.methodLink RL 59 yX4_risk, Cond.instanceMethod yX4_risk, Cond.selects RX4 yX4_risk yX4_risk, Cond.code yX4_risk cX4_risk 3 (some .int), Cond.methodLink RX4 100 yX1_haveRisk, Cond.methodLink RL 62 yX5_risk, Cond.instanceMethod yX5_risk, Cond.selects RX5 yX5_risk yX5_risk, Cond.code yX5_risk cX5_risk 3 (some .int), Cond.methodLink RL 63 yX4_sector, Cond.instanceMethod yX4_sector]
def wsL_law_r22 : List Cond := [Cond.selects RX4 yX4_sector yX4_sector, Cond.code yX4_sector cX4_sector 3 (some .int), Cond.methodLink RX4 103 yX1_sectorOf, Cond.methodLink RL 66 yX5_sector, Cond.instanceMethod yX5_sector, Cond.selects RX5 yX5_sector yX5_sector, Cond.code yX5_sector cX5_sector 3 (some .int), Cond.methodLink RL 67 yX4_table, Cond.instanceMethod yX4_table, Cond.selects RX4 yX4_table yX4_table, Cond.code yX4_table cX4_table 3 (some .int), Cond.methodLink RX4 106 yX1_tableOf, Cond.methodLink RL 70 yX5_table, Cond.instanceMethod yX5_table, Cond.selects RX5 yX5_table yX5_table, Cond.code yX5_table cX5_table 3 (some .int), Cond.methodLink RL 71 yX4_duty, Cond.instanceMethod yX4_duty, Cond.selects RX4 yX4_duty yX4_duty, Cond.code yX4_duty cX4_duty 2 (some .int), Cond.methodLink RX4 109 yX1_isOther, Cond.methodLink RX4 112 yX1_dutyTo, Cond.instanceMethod yX1_dutyTo, Cond.selects RX1 yX1_dutyTo yX1_dutyTo]
def wsL_law_r23 : List Cond := [Cond.code yX1_dutyTo cX1_dutyTo 2 (some .int), Cond.methodLink RL 74 yX5_duty, Cond.instanceMethod yX5_duty, Cond.selects RX5 yX5_duty yX5_duty, Cond.code yX5_duty cX5_duty 2 (some .int), Cond.methodLink RL 75 yX4_worst, Cond.instanceMethod yX4_worst, Cond.selects RX4 yX4_worst yX4_worst, Cond.code yX4_worst cX4_worst 1 (some .int), Cond.methodLink RX4 115 yX1_worstOther, Cond.instanceMethod yX1_worstOther, Cond.selects RX1 yX1_worstOther yX1_worstOther, Cond.code yX1_worstOther cX1_worstOther 3 (some .int), Cond.methodLink RX1 119 yX0_isWorse, Cond.instanceMethod yX0_isWorse, Cond.selects RX0 yX0_isWorse yX0_isWorse, Cond.code yX0_isWorse cX0_isWorse 4 (some .boolean), Cond.methodLink RX1 123 yX0_take, Cond.instanceMethod yX0_take, Cond.selects RX0 yX0_take yX0_take, Cond.code yX0_take cX0_take 2 none, Cond.methodLink RL 78 yX5_worst, Cond.instanceMethod yX5_worst, Cond.selects RX5 yX5_worst yX5_worst]
def wsL_law_r24 : List Cond := [Cond.code yX5_worst cX5_worst 15 (some .int), Cond.methodLink RL 79 yX4_clear, Cond.instanceMethod yX4_clear, Cond.selects RX4 yX4_clear yX4_clear, Cond.code yX4_clear cX4_clear 4 (some .int), Cond.methodLink RX4 118 yX4_isCourse, Cond.methodLink RX4 121 yX1_isClear, Cond.methodLink RL 82 yX5_clear, Cond.instanceMethod yX5_clear, Cond.selects RX5 yX5_clear yX5_clear, Cond.code yX5_clear cX5_clear 4 (some .int), Cond.methodLink RL 83 yX4_blocked, Cond.instanceMethod yX4_blocked, Cond.selects RX4 yX4_blocked yX4_blocked, Cond.code yX4_blocked cX4_blocked 2 (some .int), Cond.methodLink RX4 125 yX1_blockedBy, Cond.instanceMethod yX1_blockedBy, Cond.selects RX1 yX1_blockedBy yX1_blockedBy, Cond.code yX1_blockedBy cX1_blockedBy 4 (some .int), Cond.methodLink RL 86 yX5_blocked, Cond.instanceMethod yX5_blocked, Cond.selects RX5 yX5_blocked yX5_blocked, Cond.code yX5_blocked cX5_blocked 2 (some .int), Cond.methodLink RX5 203 yX5_blockedBy]
def wsL_law_r25 : List Cond := [Cond.instanceMethod yX5_blockedBy, Cond.selects RX5 yX5_blockedBy yX5_blockedBy, Cond.code yX5_blockedBy cX5_blockedBy 4 (some .int), Cond.methodLink RL 87 yX4_advice, Cond.instanceMethod yX4_advice, Cond.selects RX4 yX4_advice yX4_advice, Cond.code yX4_advice cX4_advice 2 (some .int), Cond.methodLink RL 90 yX5_advice, Cond.instanceMethod yX5_advice, Cond.selects RX5 yX5_advice yX5_advice, Cond.code yX5_advice cX5_advice 2 (some .int), Cond.methodLink RL 91 yX4_count, Cond.instanceMethod yX4_count, Cond.selects RX4 yX4_count yX4_count, Cond.code yX4_count cX4_count 2 (some .int), Cond.methodLink RX4 128 yX1_countOf, Cond.instanceMethod yX1_countOf, Cond.selects RX1 yX1_countOf yX1_countOf, Cond.code yX1_countOf cX1_countOf 2 (some .int), Cond.methodLink RL 94 yX5_count, Cond.instanceMethod yX5_count, Cond.selects RX5 yX5_count yX5_count, Cond.code yX5_count cX5_count 2 (some .int), Cond.methodLink RX5 206 yX5_countOf]
def wsL_law_r26 : List Cond := [Cond.instanceMethod yX5_countOf, Cond.selects RX5 yX5_countOf yX5_countOf, Cond.code yX5_countOf cX5_countOf 2 (some .int), Cond.methodLink RL 95 yX4_type, Cond.instanceMethod yX4_type, Cond.selects RX4 yX4_type yX4_type, Cond.code yX4_type cX4_type 2 (some .int), Cond.methodLink RX4 131 yX3_append, Cond.instanceMethod yX3_append, Cond.selects RX3 yX3_append yX3_append, Cond.code yX3_append cX3_append 2 (some .int), Cond.fieldLink RX3 19 "PastAndClear$Script" "length" "I", Cond.methodLink RL 98 yX5_type, Cond.instanceMethod yX5_type, Cond.selects RX5 yX5_type yX5_type, Cond.code yX5_type cX5_type 2 (some .int), Cond.fieldLink RX5 209 "PastAndClearModel" "bytes" "I", Cond.methodLink RL 99 yX4_wipes, Cond.instanceMethod yX4_wipes, Cond.selects RX4 yX4_wipes yX4_wipes, Cond.code yX4_wipes cX4_wipes 1 (some .int), Cond.methodLink RX4 134 yX3_empty, Cond.instanceMethod yX3_empty, Cond.selects RX3 yX3_empty yX3_empty]
def wsL_law_r27 : List Cond := [Cond.code yX3_empty cX3_empty 2 (some .int), Cond.methodLink RL 102 yX5_wipes, Cond.instanceMethod yX5_wipes, Cond.selects RX5 yX5_wipes yX5_wipes, Cond.code yX5_wipes cX5_wipes 2 (some .int), Cond.methodLink RL 103 yX4_does, Cond.instanceMethod yX4_does, Cond.selects RX4 yX4_does yX4_does, Cond.code yX4_does cX4_does 3 (some .int), Cond.methodLink RX4 137 yX3_faultPlace, Cond.instanceMethod yX3_faultPlace, Cond.selects RX3 yX3_faultPlace yX3_faultPlace, Cond.code yX3_faultPlace cX3_faultPlace 2 (some .int), Cond.fieldLink RX3 33 "PastAndClear$Script" "at" "I", Cond.methodLink RX3 23 yX3_rewind, Cond.instanceMethod yX3_rewind, Cond.selects RX3 yX3_rewind yX3_rewind, Cond.code yX3_rewind cX3_rewind 1 none, Cond.methodLink RX3 36 yX3_skipBlanks, Cond.instanceMethod yX3_skipBlanks, Cond.selects RX3 yX3_skipBlanks yX3_skipBlanks, Cond.code yX3_skipBlanks cX3_skipBlanks 1 none, Cond.methodLink RX3 39 yX3_next, Cond.instanceMethod yX3_next]
def wsL_law_r28 : List Cond := [Cond.selects RX3 yX3_next yX3_next, Cond.code yX3_next cX3_next 1 (some .int), Cond.methodLink RX3 26 yX3_hasMore, Cond.instanceMethod yX3_hasMore, Cond.selects RX3 yX3_hasMore yX3_hasMore, Cond.code yX3_hasMore cX3_hasMore 1 (some .boolean), Cond.methodLink RX3 30 yX3_readOrder, Cond.instanceMethod yX3_readOrder, Cond.selects RX3 yX3_readOrder yX3_readOrder, Cond.code yX3_readOrder cX3_readOrder 4 (some .boolean), Cond.fieldLink RX3 43 "PastAndClear$Script" "kind" "I", Cond.methodLink RX3 46 yX3_numbersOf, Cond.static yX3_numbersOf, Cond.code yX3_numbersOf cX3_numbersOf 1 (some .int), Cond.methodLink RX3 50 yX3_readNumber, Cond.instanceMethod yX3_readNumber, Cond.selects RX3 yX3_readNumber yX3_readNumber, Cond.code yX3_readNumber cX3_readNumber 6 (some .boolean), Cond.methodLink RX3 54 yX3_isFigure, Cond.static yX3_isFigure, Cond.code yX3_isFigure cX3_isFigure 1 (some .boolean), Cond.methodLink RX4 140 yX3_rewind, Cond.methodLink RX4 143 yX3_hasMore, Cond.methodLink RX4 147 yX3_readOrder]
def wsL_law_r29 : List Cond := [Cond.methodLink RX4 150 yX4_perform, Cond.instanceMethod yX4_perform, Cond.selects RX4 yX4_perform yX4_perform, Cond.code yX4_perform cX4_perform 2 (some .int), Cond.fieldLink RX4 186 "PastAndClear$Script" "numbers" "[I", Cond.fieldLink RX4 189 "PastAndClear$Script" "kind" "I", Cond.methodLink RX4 156 yX2_restore, Cond.instanceMethod yX2_restore, Cond.selects RX2 yX2_restore yX2_restore, Cond.code yX2_restore cX2_restore 2 none, Cond.methodLink RL 106 yX5_does, Cond.instanceMethod yX5_does, Cond.selects RX5 yX5_does yX5_does, Cond.code yX5_does cX5_does 3 (some .int), Cond.fieldLink RX5 218 "PastAndClearModel" "wrongAt" "I", Cond.fieldLink RX5 230 "PastAndClearModel" "orders" "I", Cond.methodLink RX5 240 yX5_isRead, Cond.instanceMethod yX5_isRead, Cond.selects RX5 yX5_isRead yX5_isRead, Cond.code yX5_isRead cX5_isRead 1 (some .boolean), Cond.fieldLink RX5 212 "PastAndClearModel" "spot" "I", Cond.methodLink RX5 221 yX5_blanks, Cond.instanceMethod yX5_blanks, Cond.selects RX5 yX5_blanks yX5_blanks]
def wsL_law_r30 : List Cond := [Cond.code yX5_blanks cX5_blanks 1 none, Cond.methodLink RX5 215 yX5_isAt, Cond.instanceMethod yX5_isAt, Cond.selects RX5 yX5_isAt yX5_isAt, Cond.code yX5_isAt cX5_isAt 3 (some .boolean), Cond.methodLink RX5 237 yX5_takesOrder, Cond.instanceMethod yX5_takesOrder, Cond.selects RX5 yX5_takesOrder yX5_takesOrder, Cond.code yX5_takesOrder cX5_takesOrder 4 (some .boolean), Cond.methodLink RX5 227 yX5_manyOf, Cond.static yX5_manyOf, Cond.code yX5_manyOf cX5_manyOf 1 (some .int), Cond.methodLink RX5 224 yX5_fails, Cond.instanceMethod yX5_fails, Cond.selects RX5 yX5_fails yX5_fails, Cond.code yX5_fails cX5_fails 1 (some .boolean), Cond.methodLink RX5 233 yX5_takesNumber, Cond.instanceMethod yX5_takesNumber, Cond.selects RX5 yX5_takesNumber yX5_takesNumber, Cond.code yX5_takesNumber cX5_takesNumber 6 (some .boolean), Cond.methodLink RX5 243 yX5_doneOne, Cond.instanceMethod yX5_doneOne, Cond.selects RX5 yX5_doneOne yX5_doneOne, Cond.code yX5_doneOne cX5_doneOne 6 (some .int)]
def wsL_law_r31 : List Cond := [Cond.methodLink RL 107 yX4_back, Cond.instanceMethod yX4_back, Cond.selects RX4 yX4_back yX4_back, Cond.code yX4_back cX4_back 1 (some .int), Cond.fieldLink RX4 162 "PastAndClear$History" "kept" "I", Cond.methodLink RX4 166 yX2_takeBack, Cond.instanceMethod yX2_takeBack, Cond.selects RX2 yX2_takeBack yX2_takeBack, Cond.code yX2_takeBack cX2_takeBack 2 none, Cond.methodLink RX2 25 yX2_restore, Cond.methodLink RL 110 yX5_back, Cond.instanceMethod yX5_back, Cond.selects RX5 yX5_back yX5_back, Cond.code yX5_back cX5_back 2 (some .int), Cond.methodLink RL 111 yX4_told, Cond.instanceMethod yX4_told, Cond.selects RX4 yX4_told yX4_told, Cond.code yX4_told cX4_told 2 (some .int), Cond.methodLink RX4 169 yX4_tally, Cond.instanceMethod yX4_tally, Cond.selects RX4 yX4_tally yX4_tally, Cond.code yX4_tally cX4_tally 2 (some .int), Cond.fieldLink RX4 201 "PastAndClear$Script" "length" "I", Cond.methodLink RL 114 yX5_told]
def wsL_law_r32 : List Cond := [Cond.instanceMethod yX5_told, Cond.selects RX5 yX5_told yX5_told, Cond.code yX5_told cX5_told 2 (some .int), Cond.methodLink RX5 246 yX5_toldOf, Cond.instanceMethod yX5_toldOf, Cond.selects RX5 yX5_toldOf yX5_toldOf, Cond.code yX5_toldOf cX5_toldOf 2 (some .int), Cond.methodLink RL 115 yX4_digest, Cond.instanceMethod yX4_digest, Cond.selects RX4 yX4_digest yX4_digest, Cond.code yX4_digest cX4_digest 4 (some .long), Cond.constantLong RX4 172 (1934), Cond.constantLong RX4 174 (31), Cond.methodLink RX4 176 yX1_others, Cond.instanceMethod yX1_others, Cond.selects RX1 yX1_others yX1_others, Cond.code yX1_others cX1_others 1 (some .int), Cond.methodLink RX4 179 yX1_foldShip, Cond.instanceMethod yX1_foldShip, Cond.selects RX1 yX1_foldShip yX1_foldShip, Cond.code yX1_foldShip cX1_foldShip 5 (some .long), Cond.constantLong RX1 141 (31), Cond.methodLink RX1 143 yX1_partOf, Cond.methodLink RX1 146 yX1_adviceFor]
def wsL_law_r33 : List Cond := [Cond.methodLink RX4 183 yX1_foldOther, Cond.instanceMethod yX1_foldOther, Cond.selects RX1 yX1_foldOther yX1_foldOther, Cond.code yX1_foldOther cX1_foldOther 6 (some .long), Cond.methodLink RX1 149 yX1_dutyTo, Cond.methodLink RX1 152 yX0_part, Cond.methodLink RX1 156 yX1_blockedBy, Cond.methodLink RL 119 yX5_digest, Cond.instanceMethod yX5_digest, Cond.selects RX5 yX5_digest yX5_digest, Cond.code yX5_digest cX5_digest 3 (some .long), Cond.constantLong RX5 254 (1934), Cond.fieldLink RX5 251 "PastAndClearModel" "hash" "J", Cond.methodLink RX5 256 yX5_mix, Cond.instanceMethod yX5_mix, Cond.selects RX5 yX5_mix yX5_mix, Cond.code yX5_mix cX5_mix 3 none, Cond.constantLong RX5 249 (31), Cond.methodLink RX5 260 yX5_worst]
def wsL_law : List Cond := (wsL_law_r1 ++ (wsL_law_r2 ++ (wsL_law_r3 ++ (wsL_law_r4 ++ (wsL_law_r5 ++ (wsL_law_r6 ++ (wsL_law_r7 ++ (wsL_law_r8 ++ (wsL_law_r9 ++ (wsL_law_r10 ++ (wsL_law_r11 ++ (wsL_law_r12 ++ (wsL_law_r13 ++ (wsL_law_r14 ++ (wsL_law_r15 ++ (wsL_law_r16 ++ (wsL_law_r17 ++ (wsL_law_r18 ++ (wsL_law_r19 ++ (wsL_law_r20 ++ (wsL_law_r21 ++ (wsL_law_r22 ++ (wsL_law_r23 ++ (wsL_law_r24 ++ (wsL_law_r25 ++ (wsL_law_r26 ++ (wsL_law_r27 ++ (wsL_law_r28 ++ (wsL_law_r29 ++ (wsL_law_r30 ++ (wsL_law_r31 ++ (wsL_law_r32 ++ wsL_law_r33)))))))))))))))))))))))))))))))) ++ wsX40 ++ wsX50 ++ wsX10 ++ wsX20 ++ wsX30 ++ wsX00 ++ ([] : List Cond)
end
section
theorem dX0_init_0 : decode cX0_init 0 = .ok (.aload_n 0, 1) := by decide +kernel
theorem dX0_init_1 : decode cX0_init 1 = .ok (.invokespecial 1, 3) := by decide +kernel
theorem dX0_init_4 : decode cX0_init 4 = .ok (.aload_n 0, 1) := by decide +kernel
theorem dX0_init_5 : decode cX0_init 5 = .ok (.lconst 1, 1) := by decide +kernel
theorem dX0_init_6 : decode cX0_init 6 = .ok (.putfield 7, 3) := by decide +kernel
theorem dX0_init_9 : decode cX0_init 9 = .ok (.aload_n 0, 1) := by decide +kernel
theorem dX0_init_10 : decode cX0_init 10 = .ok (.lconst 1, 1) := by decide +kernel
theorem dX0_init_11 : decode cX0_init 11 = .ok (.putfield 13, 3) := by decide +kernel
theorem dX0_init_14 : decode cX0_init 14 = .ok (.return_, 1) := by decide +kernel
theorem dX0_take_0 : decode cX0_take 0 = .ok (.aload_n 0, 1) := by decide +kernel
theorem dX0_take_1 : decode cX0_take 1 = .ok (.aload_n 1, 1) := by decide +kernel
theorem dX0_take_2 : decode cX0_take 2 = .ok (.getfield 16, 3) := by decide +kernel
theorem dX0_take_5 : decode cX0_take 5 = .ok (.putfield 16, 3) := by decide +kernel
theorem dX0_take_8 : decode cX0_take 8 = .ok (.aload_n 0, 1) := by decide +kernel
theorem dX0_take_9 : decode cX0_take 9 = .ok (.aload_n 1, 1) := by decide +kernel
theorem dX0_take_10 : decode cX0_take 10 = .ok (.getfield 7, 3) := by decide +kernel
theorem dX0_take_13 : decode cX0_take 13 = .ok (.putfield 7, 3) := by decide +kernel
theorem dX0_take_16 : decode cX0_take 16 = .ok (.aload_n 0, 1) := by decide +kernel
theorem dX0_take_17 : decode cX0_take 17 = .ok (.aload_n 1, 1) := by decide +kernel
theorem dX0_take_18 : decode cX0_take 18 = .ok (.getfield 19, 3) := by decide +kernel
theorem dX0_take_21 : decode cX0_take 21 = .ok (.putfield 19, 3) := by decide +kernel
theorem dX0_take_24 : decode cX0_take 24 = .ok (.aload_n 0, 1) := by decide +kernel
theorem dX0_take_25 : decode cX0_take 25 = .ok (.aload_n 1, 1) := by decide +kernel
theorem dX0_take_26 : decode cX0_take 26 = .ok (.getfield 13, 3) := by decide +kernel
theorem dX0_take_29 : decode cX0_take 29 = .ok (.putfield 13, 3) := by decide +kernel
theorem dX0_take_32 : decode cX0_take 32 = .ok (.return_, 1) := by decide +kernel
theorem dX0_isRisk_0 : decode cX0_isRisk 0 = .ok (.aload_n 0, 1) := by decide +kernel
theorem dX0_isRisk_1 : decode cX0_isRisk 1 = .ok (.getfield 19, 3) := by decide +kernel
theorem dX0_isRisk_4 : decode cX0_isRisk 4 = .ok (.lload_n 1, 1) := by decide +kernel
theorem dX0_isRisk_5 : decode cX0_isRisk 5 = .ok (.lload_n 1, 1) := by decide +kernel
theorem dX0_isRisk_6 : decode cX0_isRisk 6 = .ok (.lmul, 1) := by decide +kernel
theorem dX0_isRisk_7 : decode cX0_isRisk 7 = .ok (.aload_n 0, 1) := by decide +kernel
theorem dX0_isRisk_8 : decode cX0_isRisk 8 = .ok (.getfield 13, 3) := by decide +kernel
theorem dX0_isRisk_11 : decode cX0_isRisk 11 = .ok (.lmul, 1) := by decide +kernel
theorem dX0_isRisk_12 : decode cX0_isRisk 12 = .ok (.lcmp, 1) := by decide +kernel
theorem dX0_isRisk_13 : decode cX0_isRisk 13 = .ok (.ifCond .ge 21, 3) := by decide +kernel
theorem dX0_isRisk_16 : decode cX0_isRisk 16 = .ok (.aload_n 0, 1) := by decide +kernel
theorem dX0_isRisk_17 : decode cX0_isRisk 17 = .ok (.getfield 16, 3) := by decide +kernel
theorem dX0_isRisk_20 : decode cX0_isRisk 20 = .ok (.lload_n 3, 1) := by decide +kernel
theorem dX0_isRisk_21 : decode cX0_isRisk 21 = .ok (.aload_n 0, 1) := by decide +kernel
theorem dX0_isRisk_22 : decode cX0_isRisk 22 = .ok (.getfield 7, 3) := by decide +kernel
theorem dX0_isRisk_25 : decode cX0_isRisk 25 = .ok (.lmul, 1) := by decide +kernel
theorem dX0_isRisk_26 : decode cX0_isRisk 26 = .ok (.lcmp, 1) := by decide +kernel
theorem dX0_isRisk_27 : decode cX0_isRisk 27 = .ok (.ifCond .gt 7, 3) := by decide +kernel
theorem dX0_isRisk_30 : decode cX0_isRisk 30 = .ok (.iconst 1, 1) := by decide +kernel
theorem dX0_isRisk_31 : decode cX0_isRisk 31 = .ok (.goto 4, 3) := by decide +kernel
theorem dX0_isRisk_34 : decode cX0_isRisk 34 = .ok (.iconst 0, 1) := by decide +kernel
theorem dX0_isRisk_35 : decode cX0_isRisk 35 = .ok (.ireturn, 1) := by decide +kernel
theorem dX0_isPastAndClear_0 : decode cX0_isPastAndClear 0 = .ok (.aload_n 0, 1) := by decide +kernel
theorem dX0_isPastAndClear_1 : decode cX0_isPastAndClear 1 = .ok (.getfield 16, 3) := by decide +kernel
theorem dX0_isPastAndClear_4 : decode cX0_isPastAndClear 4 = .ok (.lconst 0, 1) := by decide +kernel
theorem dX0_isPastAndClear_5 : decode cX0_isPastAndClear 5 = .ok (.lcmp, 1) := by decide +kernel
theorem dX0_isPastAndClear_6 : decode cX0_isPastAndClear 6 = .ok (.ifCond .ne 18, 3) := by decide +kernel
theorem dX0_isPastAndClear_9 : decode cX0_isPastAndClear 9 = .ok (.aload_n 0, 1) := by decide +kernel
theorem dX0_isPastAndClear_10 : decode cX0_isPastAndClear 10 = .ok (.getfield 19, 3) := by decide +kernel
theorem dX0_isPastAndClear_13 : decode cX0_isPastAndClear 13 = .ok (.lload_n 1, 1) := by decide +kernel
theorem dX0_isPastAndClear_14 : decode cX0_isPastAndClear 14 = .ok (.lload_n 1, 1) := by decide +kernel
theorem dX0_isPastAndClear_15 : decode cX0_isPastAndClear 15 = .ok (.lmul, 1) := by decide +kernel
theorem dX0_isPastAndClear_16 : decode cX0_isPastAndClear 16 = .ok (.lcmp, 1) := by decide +kernel
theorem dX0_isPastAndClear_17 : decode cX0_isPastAndClear 17 = .ok (.ifCond .lt 7, 3) := by decide +kernel
theorem dX0_isPastAndClear_20 : decode cX0_isPastAndClear 20 = .ok (.iconst 1, 1) := by decide +kernel
theorem dX0_isPastAndClear_21 : decode cX0_isPastAndClear 21 = .ok (.goto 4, 3) := by decide +kernel
theorem dX0_isPastAndClear_24 : decode cX0_isPastAndClear 24 = .ok (.iconst 0, 1) := by decide +kernel
theorem dX0_isPastAndClear_25 : decode cX0_isPastAndClear 25 = .ok (.ireturn, 1) := by decide +kernel
theorem dX0_isWorse_0 : decode cX0_isWorse 0 = .ok (.aload_n 1, 1) := by decide +kernel
theorem dX0_isWorse_1 : decode cX0_isWorse 1 = .ok (.getfield 16, 3) := by decide +kernel
theorem dX0_isWorse_4 : decode cX0_isWorse 4 = .ok (.aload_n 0, 1) := by decide +kernel
theorem dX0_isWorse_5 : decode cX0_isWorse 5 = .ok (.getfield 7, 3) := by decide +kernel
theorem dX0_isWorse_8 : decode cX0_isWorse 8 = .ok (.lmul, 1) := by decide +kernel
theorem dX0_isWorse_9 : decode cX0_isWorse 9 = .ok (.aload_n 0, 1) := by decide +kernel
theorem dX0_isWorse_10 : decode cX0_isWorse 10 = .ok (.getfield 16, 3) := by decide +kernel
theorem dX0_isWorse_13 : decode cX0_isWorse 13 = .ok (.aload_n 1, 1) := by decide +kernel
theorem dX0_isWorse_14 : decode cX0_isWorse 14 = .ok (.getfield 7, 3) := by decide +kernel
theorem dX0_isWorse_17 : decode cX0_isWorse 17 = .ok (.lmul, 1) := by decide +kernel
theorem dX0_isWorse_18 : decode cX0_isWorse 18 = .ok (.lsub, 1) := by decide +kernel
theorem dX0_isWorse_19 : decode cX0_isWorse 19 = .ok (.lstore_n 2, 1) := by decide +kernel
theorem dX0_isWorse_20 : decode cX0_isWorse 20 = .ok (.lload_n 2, 1) := by decide +kernel
theorem dX0_isWorse_21 : decode cX0_isWorse 21 = .ok (.lconst 0, 1) := by decide +kernel
theorem dX0_isWorse_22 : decode cX0_isWorse 22 = .ok (.lcmp, 1) := by decide +kernel
theorem dX0_isWorse_23 : decode cX0_isWorse 23 = .ok (.ifCond .eq 15, 3) := by decide +kernel
theorem dX0_isWorse_26 : decode cX0_isWorse 26 = .ok (.lload_n 2, 1) := by decide +kernel
theorem dX0_isWorse_27 : decode cX0_isWorse 27 = .ok (.lconst 0, 1) := by decide +kernel
theorem dX0_isWorse_28 : decode cX0_isWorse 28 = .ok (.lcmp, 1) := by decide +kernel
theorem dX0_isWorse_29 : decode cX0_isWorse 29 = .ok (.ifCond .le 7, 3) := by decide +kernel
theorem dX0_isWorse_32 : decode cX0_isWorse 32 = .ok (.iconst 1, 1) := by decide +kernel
theorem dX0_isWorse_33 : decode cX0_isWorse 33 = .ok (.goto 4, 3) := by decide +kernel
theorem dX0_isWorse_36 : decode cX0_isWorse 36 = .ok (.iconst 0, 1) := by decide +kernel
theorem dX0_isWorse_37 : decode cX0_isWorse 37 = .ok (.ireturn, 1) := by decide +kernel
theorem dX0_isWorse_38 : decode cX0_isWorse 38 = .ok (.aload_n 0, 1) := by decide +kernel
theorem dX0_isWorse_39 : decode cX0_isWorse 39 = .ok (.getfield 19, 3) := by decide +kernel
theorem dX0_isWorse_42 : decode cX0_isWorse 42 = .ok (.aload_n 1, 1) := by decide +kernel
theorem dX0_isWorse_43 : decode cX0_isWorse 43 = .ok (.getfield 13, 3) := by decide +kernel
theorem dX0_isWorse_46 : decode cX0_isWorse 46 = .ok (.lmul, 1) := by decide +kernel
theorem dX0_isWorse_47 : decode cX0_isWorse 47 = .ok (.aload_n 1, 1) := by decide +kernel
theorem dX0_isWorse_48 : decode cX0_isWorse 48 = .ok (.getfield 19, 3) := by decide +kernel
theorem dX0_isWorse_51 : decode cX0_isWorse 51 = .ok (.aload_n 0, 1) := by decide +kernel
theorem dX0_isWorse_52 : decode cX0_isWorse 52 = .ok (.getfield 13, 3) := by decide +kernel
theorem dX0_isWorse_55 : decode cX0_isWorse 55 = .ok (.lmul, 1) := by decide +kernel
theorem dX0_isWorse_56 : decode cX0_isWorse 56 = .ok (.lcmp, 1) := by decide +kernel
theorem dX0_isWorse_57 : decode cX0_isWorse 57 = .ok (.ifCond .ge 7, 3) := by decide +kernel
theorem dX0_isWorse_60 : decode cX0_isWorse 60 = .ok (.iconst 1, 1) := by decide +kernel
theorem dX0_isWorse_61 : decode cX0_isWorse 61 = .ok (.goto 4, 3) := by decide +kernel
theorem dX0_isWorse_64 : decode cX0_isWorse 64 = .ok (.iconst 0, 1) := by decide +kernel
theorem dX0_isWorse_65 : decode cX0_isWorse 65 = .ok (.ireturn, 1) := by decide +kernel
set_option maxRecDepth 20000 in
theorem ggX0_part_X0_lowest : GoodIn wsX0_part wsX0_lowest := goodIn_r _ [8, 9, 10, 7, 11] (by decide +kernel) (by decide +kernel)
set_option maxRecDepth 20000 in
theorem gX0_part_X0_lowest : GoodIn wsX0_part (va_wsS RX0 22 yX0_lowest wsX0_lowest) := goodIn_app (goodIn_of _ (by decide +kernel)) ggX0_part_X0_lowest
theorem dX0_part_0 : decode cX0_part 0 = .ok (.iload_n 1, 1) := by decide +kernel
theorem dX0_part_1 : decode cX0_part 1 = .ok (.iconst 2, 1) := by decide +kernel
theorem dX0_part_2 : decode cX0_part 2 = .ok (.if_icmp .ge 24, 3) := by decide +kernel
theorem dX0_part_5 : decode cX0_part 5 = .ok (.aload_n 0, 1) := by decide +kernel
theorem dX0_part_6 : decode cX0_part 6 = .ok (.getfield 16, 3) := by decide +kernel
theorem dX0_part_9 : decode cX0_part 9 = .ok (.aload_n 0, 1) := by decide +kernel
theorem dX0_part_10 : decode cX0_part 10 = .ok (.getfield 7, 3) := by decide +kernel
theorem dX0_part_13 : decode cX0_part 13 = .ok (.iload_n 1, 1) := by decide +kernel
theorem dX0_part_14 : decode cX0_part 14 = .ok (.ifCond .ne 7, 3) := by decide +kernel
theorem dX0_part_17 : decode cX0_part 17 = .ok (.iconst 1, 1) := by decide +kernel
theorem dX0_part_18 : decode cX0_part 18 = .ok (.goto 4, 3) := by decide +kernel
theorem dX0_part_21 : decode cX0_part 21 = .ok (.iconst 0, 1) := by decide +kernel
theorem dX0_part_22 : decode cX0_part 22 = .ok (.invokestatic 22, 3) := by decide +kernel
theorem dX0_part_25 : decode cX0_part 25 = .ok (.lreturn, 1) := by decide +kernel
theorem dX0_part_26 : decode cX0_part 26 = .ok (.aload_n 0, 1) := by decide +kernel
theorem dX0_part_27 : decode cX0_part 27 = .ok (.getfield 19, 3) := by decide +kernel
theorem dX0_part_30 : decode cX0_part 30 = .ok (.aload_n 0, 1) := by decide +kernel
theorem dX0_part_31 : decode cX0_part 31 = .ok (.getfield 13, 3) := by decide +kernel
theorem dX0_part_34 : decode cX0_part 34 = .ok (.iload_n 1, 1) := by decide +kernel
theorem dX0_part_35 : decode cX0_part 35 = .ok (.iconst 2, 1) := by decide +kernel
theorem dX0_part_36 : decode cX0_part 36 = .ok (.if_icmp .ne 7, 3) := by decide +kernel
theorem dX0_part_39 : decode cX0_part 39 = .ok (.iconst 1, 1) := by decide +kernel
theorem dX0_part_40 : decode cX0_part 40 = .ok (.goto 4, 3) := by decide +kernel
theorem dX0_part_43 : decode cX0_part 43 = .ok (.iconst 0, 1) := by decide +kernel
theorem dX0_part_44 : decode cX0_part 44 = .ok (.invokestatic 22, 3) := by decide +kernel
theorem dX0_part_47 : decode cX0_part 47 = .ok (.lreturn, 1) := by decide +kernel
set_option maxRecDepth 20000 in
theorem ggX0_lowest_X0_sharedDivisor : GoodIn wsX0_lowest wsX0_sharedDivisor := goodIn_r _ [4] (by decide +kernel) (by decide +kernel)
set_option maxRecDepth 20000 in
theorem gX0_lowest_X0_sharedDivisor : GoodIn wsX0_lowest (va_wsS RX0 26 yX0_sharedDivisor wsX0_sharedDivisor) := goodIn_app (goodIn_of _ (by decide +kernel)) ggX0_lowest_X0_sharedDivisor
theorem dX0_lowest_0 : decode cX0_lowest 0 = .ok (.lload_n 0, 1) := by decide +kernel
theorem dX0_lowest_1 : decode cX0_lowest 1 = .ok (.lload_n 2, 1) := by decide +kernel
theorem dX0_lowest_2 : decode cX0_lowest 2 = .ok (.invokestatic 26, 3) := by decide +kernel
theorem dX0_lowest_5 : decode cX0_lowest 5 = .ok (.lstore 5, 2) := by decide +kernel
theorem dX0_lowest_7 : decode cX0_lowest 7 = .ok (.lload 5, 2) := by decide +kernel
theorem dX0_lowest_9 : decode cX0_lowest 9 = .ok (.lconst 0, 1) := by decide +kernel
theorem dX0_lowest_10 : decode cX0_lowest 10 = .ok (.lcmp, 1) := by decide +kernel
theorem dX0_lowest_11 : decode cX0_lowest 11 = .ok (.ifCond .ne 5, 3) := by decide +kernel
theorem dX0_lowest_14 : decode cX0_lowest 14 = .ok (.lconst 0, 1) := by decide +kernel
theorem dX0_lowest_15 : decode cX0_lowest 15 = .ok (.lreturn, 1) := by decide +kernel
theorem dX0_lowest_16 : decode cX0_lowest 16 = .ok (.iload 4, 2) := by decide +kernel
theorem dX0_lowest_18 : decode cX0_lowest 18 = .ok (.ifCond .eq 7, 3) := by decide +kernel
theorem dX0_lowest_21 : decode cX0_lowest 21 = .ok (.lload_n 0, 1) := by decide +kernel
theorem dX0_lowest_22 : decode cX0_lowest 22 = .ok (.goto 4, 3) := by decide +kernel
theorem dX0_lowest_25 : decode cX0_lowest 25 = .ok (.lload_n 2, 1) := by decide +kernel
theorem dX0_lowest_26 : decode cX0_lowest 26 = .ok (.lload 5, 2) := by decide +kernel
theorem dX0_lowest_28 : decode cX0_lowest 28 = .ok (.ldiv, 1) := by decide +kernel
theorem dX0_lowest_29 : decode cX0_lowest 29 = .ok (.lreturn, 1) := by decide +kernel
theorem dX0_sharedDivisor_0 : decode cX0_sharedDivisor 0 = .ok (.iconst 0, 1) := by decide +kernel
theorem dX0_sharedDivisor_1 : decode cX0_sharedDivisor 1 = .ok (.istore 4, 2) := by decide +kernel
theorem dX0_sharedDivisor_3 : decode cX0_sharedDivisor 3 = .ok (.iload 4, 2) := by decide +kernel
theorem dX0_sharedDivisor_5 : decode cX0_sharedDivisor 5 = .ok (.bipush 100, 2) := by decide +kernel
theorem dX0_sharedDivisor_7 : decode cX0_sharedDivisor 7 = .ok (.if_icmp .ge 25, 3) := by decide +kernel
theorem dX0_sharedDivisor_10 : decode cX0_sharedDivisor 10 = .ok (.lload_n 2, 1) := by decide +kernel
theorem dX0_sharedDivisor_11 : decode cX0_sharedDivisor 11 = .ok (.lconst 0, 1) := by decide +kernel
theorem dX0_sharedDivisor_12 : decode cX0_sharedDivisor 12 = .ok (.lcmp, 1) := by decide +kernel
theorem dX0_sharedDivisor_13 : decode cX0_sharedDivisor 13 = .ok (.ifCond .eq 19, 3) := by decide +kernel
theorem dX0_sharedDivisor_16 : decode cX0_sharedDivisor 16 = .ok (.lload_n 0, 1) := by decide +kernel
theorem dX0_sharedDivisor_17 : decode cX0_sharedDivisor 17 = .ok (.lload_n 2, 1) := by decide +kernel
theorem dX0_sharedDivisor_18 : decode cX0_sharedDivisor 18 = .ok (.lrem, 1) := by decide +kernel
theorem dX0_sharedDivisor_19 : decode cX0_sharedDivisor 19 = .ok (.lstore 5, 2) := by decide +kernel
theorem dX0_sharedDivisor_21 : decode cX0_sharedDivisor 21 = .ok (.lload_n 2, 1) := by decide +kernel
theorem dX0_sharedDivisor_22 : decode cX0_sharedDivisor 22 = .ok (.lstore_n 0, 1) := by decide +kernel
theorem dX0_sharedDivisor_23 : decode cX0_sharedDivisor 23 = .ok (.lload 5, 2) := by decide +kernel
theorem dX0_sharedDivisor_25 : decode cX0_sharedDivisor 25 = .ok (.lstore_n 2, 1) := by decide +kernel
theorem dX0_sharedDivisor_26 : decode cX0_sharedDivisor 26 = .ok (.iinc 4 1, 3) := by decide +kernel
theorem dX0_sharedDivisor_29 : decode cX0_sharedDivisor 29 = .ok (.goto (-26), 3) := by decide +kernel
theorem dX0_sharedDivisor_32 : decode cX0_sharedDivisor 32 = .ok (.lload_n 0, 1) := by decide +kernel
theorem dX0_sharedDivisor_33 : decode cX0_sharedDivisor 33 = .ok (.lreturn, 1) := by decide +kernel
set_option maxRecDepth 20000 in
theorem ggX1_init_X0_init : GoodIn wsX1_init wsX0_init := goodIn_r _ [13, 14, 2, 3, 15, 16, 20, 21, 22, 23] (by decide +kernel) (by decide +kernel)
set_option maxRecDepth 20000 in
theorem gX1_init_X0_init : GoodIn wsX1_init (wsX0_init) := ggX1_init_X0_init
theorem dX1_init_0 : decode cX1_init 0 = .ok (.aload_n 0, 1) := by decide +kernel
theorem dX1_init_1 : decode cX1_init 1 = .ok (.invokespecial 3, 3) := by decide +kernel
theorem dX1_init_4 : decode cX1_init 4 = .ok (.aload_n 0, 1) := by decide +kernel
theorem dX1_init_5 : decode cX1_init 5 = .ok (.bipush 39, 2) := by decide +kernel
theorem dX1_init_7 : decode cX1_init 7 = .ok (.newarray .int, 2) := by decide +kernel
theorem dX1_init_9 : decode cX1_init 9 = .ok (.putfield 11, 3) := by decide +kernel
theorem dX1_init_12 : decode cX1_init 12 = .ok (.aload_n 0, 1) := by decide +kernel
theorem dX1_init_13 : decode cX1_init 13 = .ok (.getfield 11, 3) := by decide +kernel
theorem dX1_init_16 : decode cX1_init 16 = .ok (.bipush 36, 2) := by decide +kernel
theorem dX1_init_18 : decode cX1_init 18 = .ok (.bipush 50, 2) := by decide +kernel
theorem dX1_init_20 : decode cX1_init 20 = .ok (.iastore, 1) := by decide +kernel
theorem dX1_init_21 : decode cX1_init 21 = .ok (.aload_n 0, 1) := by decide +kernel
theorem dX1_init_22 : decode cX1_init 22 = .ok (.getfield 11, 3) := by decide +kernel
theorem dX1_init_25 : decode cX1_init 25 = .ok (.bipush 37, 2) := by decide +kernel
theorem dX1_init_27 : decode cX1_init 27 = .ok (.bipush 12, 2) := by decide +kernel
theorem dX1_init_29 : decode cX1_init 29 = .ok (.iastore, 1) := by decide +kernel
theorem dX1_init_30 : decode cX1_init 30 = .ok (.aload_n 0, 1) := by decide +kernel
theorem dX1_init_31 : decode cX1_init 31 = .ok (.new 15, 3) := by decide +kernel
theorem dX1_init_34 : decode cX1_init 34 = .ok (.dup, 1) := by decide +kernel
theorem dX1_init_35 : decode cX1_init 35 = .ok (.invokespecial 17, 3) := by decide +kernel
theorem dX1_init_38 : decode cX1_init 38 = .ok (.putfield 18, 3) := by decide +kernel
theorem dX1_init_41 : decode cX1_init 41 = .ok (.aload_n 0, 1) := by decide +kernel
theorem dX1_init_42 : decode cX1_init 42 = .ok (.new 15, 3) := by decide +kernel
theorem dX1_init_45 : decode cX1_init 45 = .ok (.dup, 1) := by decide +kernel
theorem dX1_init_46 : decode cX1_init 46 = .ok (.invokespecial 17, 3) := by decide +kernel
theorem dX1_init_49 : decode cX1_init 49 = .ok (.putfield 22, 3) := by decide +kernel
theorem dX1_init_52 : decode cX1_init 52 = .ok (.return_, 1) := by decide +kernel
theorem dX1_others_0 : decode cX1_others 0 = .ok (.aload_n 0, 1) := by decide +kernel
theorem dX1_others_1 : decode cX1_others 1 = .ok (.getfield 11, 3) := by decide +kernel
theorem dX1_others_4 : decode cX1_others 4 = .ok (.bipush 35, 2) := by decide +kernel
theorem dX1_others_6 : decode cX1_others 6 = .ok (.iaload, 1) := by decide +kernel
theorem dX1_others_7 : decode cX1_others 7 = .ok (.ireturn, 1) := by decide +kernel
theorem dX1_isShip_0 : decode cX1_isShip 0 = .ok (.iload_n 1, 1) := by decide +kernel
theorem dX1_isShip_1 : decode cX1_isShip 1 = .ok (.ifCond .lt 18, 3) := by decide +kernel
theorem dX1_isShip_4 : decode cX1_isShip 4 = .ok (.iload_n 1, 1) := by decide +kernel
theorem dX1_isShip_5 : decode cX1_isShip 5 = .ok (.aload_n 0, 1) := by decide +kernel
theorem dX1_isShip_6 : decode cX1_isShip 6 = .ok (.getfield 11, 3) := by decide +kernel
theorem dX1_isShip_9 : decode cX1_isShip 9 = .ok (.bipush 35, 2) := by decide +kernel
theorem dX1_isShip_11 : decode cX1_isShip 11 = .ok (.iaload, 1) := by decide +kernel
theorem dX1_isShip_12 : decode cX1_isShip 12 = .ok (.if_icmp .gt 7, 3) := by decide +kernel
theorem dX1_isShip_15 : decode cX1_isShip 15 = .ok (.iconst 1, 1) := by decide +kernel
theorem dX1_isShip_16 : decode cX1_isShip 16 = .ok (.goto 4, 3) := by decide +kernel
theorem dX1_isShip_19 : decode cX1_isShip 19 = .ok (.iconst 0, 1) := by decide +kernel
theorem dX1_isShip_20 : decode cX1_isShip 20 = .ok (.ireturn, 1) := by decide +kernel
theorem dX1_isOther_0 : decode cX1_isOther 0 = .ok (.iload_n 1, 1) := by decide +kernel
theorem dX1_isOther_1 : decode cX1_isOther 1 = .ok (.ifCond .le 18, 3) := by decide +kernel
theorem dX1_isOther_4 : decode cX1_isOther 4 = .ok (.iload_n 1, 1) := by decide +kernel
theorem dX1_isOther_5 : decode cX1_isOther 5 = .ok (.aload_n 0, 1) := by decide +kernel
theorem dX1_isOther_6 : decode cX1_isOther 6 = .ok (.getfield 11, 3) := by decide +kernel
theorem dX1_isOther_9 : decode cX1_isOther 9 = .ok (.bipush 35, 2) := by decide +kernel
theorem dX1_isOther_11 : decode cX1_isOther 11 = .ok (.iaload, 1) := by decide +kernel
theorem dX1_isOther_12 : decode cX1_isOther 12 = .ok (.if_icmp .gt 7, 3) := by decide +kernel
theorem dX1_isOther_15 : decode cX1_isOther 15 = .ok (.iconst 1, 1) := by decide +kernel
theorem dX1_isOther_16 : decode cX1_isOther 16 = .ok (.goto 4, 3) := by decide +kernel
theorem dX1_isOther_19 : decode cX1_isOther 19 = .ok (.iconst 0, 1) := by decide +kernel
theorem dX1_isOther_20 : decode cX1_isOther 20 = .ok (.ireturn, 1) := by decide +kernel
set_option maxRecDepth 20000 in
theorem ggX1_isPair_X1_isShip : GoodIn wsX1_isPair wsX1_isShip := goodIn_r _ [5, 6, 7, 8, 9] (by decide +kernel) (by decide +kernel)
set_option maxRecDepth 20000 in
theorem gX1_isPair_X1_isShip : GoodIn wsX1_isPair (wsV RX1 25 RX1 yX1_isShip wsX1_isShip) := goodIn_app (goodIn_of _ (by decide +kernel)) ggX1_isPair_X1_isShip
theorem dX1_isPair_0 : decode cX1_isPair 0 = .ok (.aload_n 0, 1) := by decide +kernel
theorem dX1_isPair_1 : decode cX1_isPair 1 = .ok (.iload_n 1, 1) := by decide +kernel
theorem dX1_isPair_2 : decode cX1_isPair 2 = .ok (.invokevirtual 25, 3) := by decide +kernel
theorem dX1_isPair_5 : decode cX1_isPair 5 = .ok (.ifCond .eq 20, 3) := by decide +kernel
theorem dX1_isPair_8 : decode cX1_isPair 8 = .ok (.aload_n 0, 1) := by decide +kernel
theorem dX1_isPair_9 : decode cX1_isPair 9 = .ok (.iload_n 2, 1) := by decide +kernel
theorem dX1_isPair_10 : decode cX1_isPair 10 = .ok (.invokevirtual 25, 3) := by decide +kernel
theorem dX1_isPair_13 : decode cX1_isPair 13 = .ok (.ifCond .eq 12, 3) := by decide +kernel
theorem dX1_isPair_16 : decode cX1_isPair 16 = .ok (.iload_n 1, 1) := by decide +kernel
theorem dX1_isPair_17 : decode cX1_isPair 17 = .ok (.iload_n 2, 1) := by decide +kernel
theorem dX1_isPair_18 : decode cX1_isPair 18 = .ok (.if_icmp .eq 7, 3) := by decide +kernel
theorem dX1_isPair_21 : decode cX1_isPair 21 = .ok (.iconst 1, 1) := by decide +kernel
theorem dX1_isPair_22 : decode cX1_isPair 22 = .ok (.goto 4, 3) := by decide +kernel
theorem dX1_isPair_25 : decode cX1_isPair 25 = .ok (.iconst 0, 1) := by decide +kernel
theorem dX1_isPair_26 : decode cX1_isPair 26 = .ok (.ireturn, 1) := by decide +kernel
theorem dX1_dutyTo_0 : decode cX1_dutyTo 0 = .ok (.aload_n 0, 1) := by decide +kernel
theorem dX1_dutyTo_1 : decode cX1_dutyTo 1 = .ok (.getfield 11, 3) := by decide +kernel
theorem dX1_dutyTo_4 : decode cX1_dutyTo 4 = .ok (.iconst 5, 1) := by decide +kernel
theorem dX1_dutyTo_5 : decode cX1_dutyTo 5 = .ok (.iload_n 1, 1) := by decide +kernel
theorem dX1_dutyTo_6 : decode cX1_dutyTo 6 = .ok (.imul, 1) := by decide +kernel
theorem dX1_dutyTo_7 : decode cX1_dutyTo 7 = .ok (.iconst 4, 1) := by decide +kernel
theorem dX1_dutyTo_8 : decode cX1_dutyTo 8 = .ok (.iadd, 1) := by decide +kernel
theorem dX1_dutyTo_9 : decode cX1_dutyTo 9 = .ok (.iaload, 1) := by decide +kernel
theorem dX1_dutyTo_10 : decode cX1_dutyTo 10 = .ok (.ireturn, 1) := by decide +kernel
theorem dX1_countOf_0 : decode cX1_countOf 0 = .ok (.aload_n 0, 1) := by decide +kernel
theorem dX1_countOf_1 : decode cX1_countOf 1 = .ok (.getfield 11, 3) := by decide +kernel
theorem dX1_countOf_4 : decode cX1_countOf 4 = .ok (.bipush 35, 2) := by decide +kernel
theorem dX1_countOf_6 : decode cX1_countOf 6 = .ok (.iload_n 1, 1) := by decide +kernel
theorem dX1_countOf_7 : decode cX1_countOf 7 = .ok (.iadd, 1) := by decide +kernel
theorem dX1_countOf_8 : decode cX1_countOf 8 = .ok (.iaload, 1) := by decide +kernel
theorem dX1_countOf_9 : decode cX1_countOf 9 = .ok (.ireturn, 1) := by decide +kernel
set_option maxRecDepth 20000 in
theorem ggX1_partOf_X1_eastward : GoodIn wsX1_partOf wsX1_eastward := goodIn_r _ [6, 1, 7, 13, 14, 15] (by decide +kernel) (by decide +kernel)
set_option maxRecDepth 20000 in
theorem gX1_partOf_X1_eastward : GoodIn wsX1_partOf (wsV RX1 29 RX1 yX1_eastward wsX1_eastward) := goodIn_app (goodIn_of _ (by decide +kernel)) ggX1_partOf_X1_eastward
set_option maxRecDepth 20000 in
theorem ggX1_partOf_X1_northward : GoodIn wsX1_partOf wsX1_northward := goodIn_r _ [11, 1, 12, 13, 14, 15] (by decide +kernel) (by decide +kernel)
set_option maxRecDepth 20000 in
theorem gX1_partOf_X1_northward : GoodIn wsX1_partOf (wsV RX1 33 RX1 yX1_northward wsX1_northward) := goodIn_app (goodIn_of _ (by decide +kernel)) ggX1_partOf_X1_northward
theorem dX1_partOf_0 : decode cX1_partOf 0 = .ok (.iload_n 2, 1) := by decide +kernel
theorem dX1_partOf_1 : decode cX1_partOf 1 = .ok (.iconst 4, 1) := by decide +kernel
theorem dX1_partOf_2 : decode cX1_partOf 2 = .ok (.if_icmp .ne 9, 3) := by decide +kernel
theorem dX1_partOf_5 : decode cX1_partOf 5 = .ok (.aload_n 0, 1) := by decide +kernel
theorem dX1_partOf_6 : decode cX1_partOf 6 = .ok (.iload_n 1, 1) := by decide +kernel
theorem dX1_partOf_7 : decode cX1_partOf 7 = .ok (.invokevirtual 29, 3) := by decide +kernel
theorem dX1_partOf_10 : decode cX1_partOf 10 = .ok (.ireturn, 1) := by decide +kernel
theorem dX1_partOf_11 : decode cX1_partOf 11 = .ok (.iload_n 2, 1) := by decide +kernel
theorem dX1_partOf_12 : decode cX1_partOf 12 = .ok (.iconst 5, 1) := by decide +kernel
theorem dX1_partOf_13 : decode cX1_partOf 13 = .ok (.if_icmp .ne 9, 3) := by decide +kernel
theorem dX1_partOf_16 : decode cX1_partOf 16 = .ok (.aload_n 0, 1) := by decide +kernel
theorem dX1_partOf_17 : decode cX1_partOf 17 = .ok (.iload_n 1, 1) := by decide +kernel
theorem dX1_partOf_18 : decode cX1_partOf 18 = .ok (.invokevirtual 33, 3) := by decide +kernel
theorem dX1_partOf_21 : decode cX1_partOf 21 = .ok (.ireturn, 1) := by decide +kernel
theorem dX1_partOf_22 : decode cX1_partOf 22 = .ok (.aload_n 0, 1) := by decide +kernel
theorem dX1_partOf_23 : decode cX1_partOf 23 = .ok (.getfield 11, 3) := by decide +kernel
theorem dX1_partOf_26 : decode cX1_partOf 26 = .ok (.iconst 5, 1) := by decide +kernel
theorem dX1_partOf_27 : decode cX1_partOf 27 = .ok (.iload_n 1, 1) := by decide +kernel
theorem dX1_partOf_28 : decode cX1_partOf 28 = .ok (.imul, 1) := by decide +kernel
theorem dX1_partOf_29 : decode cX1_partOf 29 = .ok (.iload_n 2, 1) := by decide +kernel
theorem dX1_partOf_30 : decode cX1_partOf 30 = .ok (.iadd, 1) := by decide +kernel
theorem dX1_partOf_31 : decode cX1_partOf 31 = .ok (.iaload, 1) := by decide +kernel
theorem dX1_partOf_32 : decode cX1_partOf 32 = .ok (.ireturn, 1) := by decide +kernel
theorem dX1_eastward_0 : decode cX1_eastward 0 = .ok (.aload_n 0, 1) := by decide +kernel
theorem dX1_eastward_1 : decode cX1_eastward 1 = .ok (.getfield 11, 3) := by decide +kernel
theorem dX1_eastward_4 : decode cX1_eastward 4 = .ok (.iconst 5, 1) := by decide +kernel
theorem dX1_eastward_5 : decode cX1_eastward 5 = .ok (.iload_n 1, 1) := by decide +kernel
theorem dX1_eastward_6 : decode cX1_eastward 6 = .ok (.imul, 1) := by decide +kernel
theorem dX1_eastward_7 : decode cX1_eastward 7 = .ok (.iconst 3, 1) := by decide +kernel
theorem dX1_eastward_8 : decode cX1_eastward 8 = .ok (.iadd, 1) := by decide +kernel
theorem dX1_eastward_9 : decode cX1_eastward 9 = .ok (.iaload, 1) := by decide +kernel
theorem dX1_eastward_10 : decode cX1_eastward 10 = .ok (.getstatic 36, 3) := by decide +kernel
theorem dX1_eastward_13 : decode cX1_eastward 13 = .ok (.aload_n 0, 1) := by decide +kernel
theorem dX1_eastward_14 : decode cX1_eastward 14 = .ok (.getfield 11, 3) := by decide +kernel
theorem dX1_eastward_17 : decode cX1_eastward 17 = .ok (.iconst 5, 1) := by decide +kernel
theorem dX1_eastward_18 : decode cX1_eastward 18 = .ok (.iload_n 1, 1) := by decide +kernel
theorem dX1_eastward_19 : decode cX1_eastward 19 = .ok (.imul, 1) := by decide +kernel
theorem dX1_eastward_20 : decode cX1_eastward 20 = .ok (.iconst 2, 1) := by decide +kernel
theorem dX1_eastward_21 : decode cX1_eastward 21 = .ok (.iadd, 1) := by decide +kernel
theorem dX1_eastward_22 : decode cX1_eastward 22 = .ok (.iaload, 1) := by decide +kernel
theorem dX1_eastward_23 : decode cX1_eastward 23 = .ok (.bipush 15, 2) := by decide +kernel
theorem dX1_eastward_25 : decode cX1_eastward 25 = .ok (.iand, 1) := by decide +kernel
theorem dX1_eastward_26 : decode cX1_eastward 26 = .ok (.iaload, 1) := by decide +kernel
theorem dX1_eastward_27 : decode cX1_eastward 27 = .ok (.imul, 1) := by decide +kernel
theorem dX1_eastward_28 : decode cX1_eastward 28 = .ok (.ireturn, 1) := by decide +kernel
theorem dX1_northward_0 : decode cX1_northward 0 = .ok (.aload_n 0, 1) := by decide +kernel
theorem dX1_northward_1 : decode cX1_northward 1 = .ok (.getfield 11, 3) := by decide +kernel
theorem dX1_northward_4 : decode cX1_northward 4 = .ok (.iconst 5, 1) := by decide +kernel
theorem dX1_northward_5 : decode cX1_northward 5 = .ok (.iload_n 1, 1) := by decide +kernel
theorem dX1_northward_6 : decode cX1_northward 6 = .ok (.imul, 1) := by decide +kernel
theorem dX1_northward_7 : decode cX1_northward 7 = .ok (.iconst 3, 1) := by decide +kernel
theorem dX1_northward_8 : decode cX1_northward 8 = .ok (.iadd, 1) := by decide +kernel
theorem dX1_northward_9 : decode cX1_northward 9 = .ok (.iaload, 1) := by decide +kernel
theorem dX1_northward_10 : decode cX1_northward 10 = .ok (.getstatic 39, 3) := by decide +kernel
theorem dX1_northward_13 : decode cX1_northward 13 = .ok (.aload_n 0, 1) := by decide +kernel
theorem dX1_northward_14 : decode cX1_northward 14 = .ok (.getfield 11, 3) := by decide +kernel
theorem dX1_northward_17 : decode cX1_northward 17 = .ok (.iconst 5, 1) := by decide +kernel
theorem dX1_northward_18 : decode cX1_northward 18 = .ok (.iload_n 1, 1) := by decide +kernel
theorem dX1_northward_19 : decode cX1_northward 19 = .ok (.imul, 1) := by decide +kernel
theorem dX1_northward_20 : decode cX1_northward 20 = .ok (.iconst 2, 1) := by decide +kernel
theorem dX1_northward_21 : decode cX1_northward 21 = .ok (.iadd, 1) := by decide +kernel
theorem dX1_northward_22 : decode cX1_northward 22 = .ok (.iaload, 1) := by decide +kernel
theorem dX1_northward_23 : decode cX1_northward 23 = .ok (.bipush 15, 2) := by decide +kernel
theorem dX1_northward_25 : decode cX1_northward 25 = .ok (.iand, 1) := by decide +kernel
theorem dX1_northward_26 : decode cX1_northward 26 = .ok (.iaload, 1) := by decide +kernel
theorem dX1_northward_27 : decode cX1_northward 27 = .ok (.imul, 1) := by decide +kernel
theorem dX1_northward_28 : decode cX1_northward 28 = .ok (.ireturn, 1) := by decide +kernel
set_option maxRecDepth 20000 in
theorem ggX1_join_X1_isPlace : GoodIn wsX1_join wsX1_isPlace := goodIn_r _ [5] (by decide +kernel) (by decide +kernel)
set_option maxRecDepth 20000 in
theorem gX1_join_X1_isPlace : GoodIn wsX1_join (va_wsS RX1 42 yX1_isPlace wsX1_isPlace) := goodIn_app (goodIn_of _ (by decide +kernel)) ggX1_join_X1_isPlace
set_option maxRecDepth 20000 in
theorem ggX1_join_X4_isCourse : GoodIn wsX1_join wsX4_isCourse := goodIn_r _ [8] (by decide +kernel) (by decide +kernel)
set_option maxRecDepth 20000 in
theorem gX1_join_X4_isCourse_n45 : GoodIn wsX1_join (wsX4_isCourse) := ggX1_join_X4_isCourse
set_option maxRecDepth 20000 in
theorem ggX1_join_X1_put : GoodIn wsX1_join wsX1_put := goodIn_r _ [12, 1, 13, 14, 15] (by decide +kernel) (by decide +kernel)
set_option maxRecDepth 20000 in
theorem gX1_join_X1_put : GoodIn wsX1_join (wsV RX1 49 RX1 yX1_put wsX1_put) := goodIn_app (goodIn_of _ (by decide +kernel)) ggX1_join_X1_put
theorem dX1_join_0 : decode cX1_join 0 = .ok (.iload_n 1, 1) := by decide +kernel
theorem dX1_join_1 : decode cX1_join 1 = .ok (.invokestatic 42, 3) := by decide +kernel
theorem dX1_join_4 : decode cX1_join 4 = .ok (.ifCond .eq 19, 3) := by decide +kernel
theorem dX1_join_7 : decode cX1_join 7 = .ok (.iload_n 2, 1) := by decide +kernel
theorem dX1_join_8 : decode cX1_join 8 = .ok (.invokestatic 42, 3) := by decide +kernel
theorem dX1_join_11 : decode cX1_join 11 = .ok (.ifCond .eq 12, 3) := by decide +kernel
theorem dX1_join_14 : decode cX1_join 14 = .ok (.iload_n 3, 1) := by decide +kernel
theorem dX1_join_15 : decode cX1_join 15 = .ok (.iload 4, 2) := by decide +kernel
theorem dX1_join_17 : decode cX1_join 17 = .ok (.invokestatic 45, 3) := by decide +kernel
theorem dX1_join_20 : decode cX1_join 20 = .ok (.ifCond .ne 7, 3) := by decide +kernel
theorem dX1_join_23 : decode cX1_join 23 = .ok (.sipush (-10002), 3) := by decide +kernel
theorem dX1_join_26 : decode cX1_join 26 = .ok (.ireturn, 1) := by decide +kernel
theorem dX1_join_27 : decode cX1_join 27 = .ok (.aload_n 0, 1) := by decide +kernel
theorem dX1_join_28 : decode cX1_join 28 = .ok (.getfield 11, 3) := by decide +kernel
theorem dX1_join_31 : decode cX1_join 31 = .ok (.bipush 35, 2) := by decide +kernel
theorem dX1_join_33 : decode cX1_join 33 = .ok (.iaload, 1) := by decide +kernel
theorem dX1_join_34 : decode cX1_join 34 = .ok (.iconst 1, 1) := by decide +kernel
theorem dX1_join_35 : decode cX1_join 35 = .ok (.iadd, 1) := by decide +kernel
theorem dX1_join_36 : decode cX1_join 36 = .ok (.bipush 7, 2) := by decide +kernel
theorem dX1_join_38 : decode cX1_join 38 = .ok (.if_icmp .lt 7, 3) := by decide +kernel
theorem dX1_join_41 : decode cX1_join 41 = .ok (.sipush (-10004), 3) := by decide +kernel
theorem dX1_join_44 : decode cX1_join 44 = .ok (.ireturn, 1) := by decide +kernel
theorem dX1_join_45 : decode cX1_join 45 = .ok (.aload_n 0, 1) := by decide +kernel
theorem dX1_join_46 : decode cX1_join 46 = .ok (.getfield 11, 3) := by decide +kernel
theorem dX1_join_49 : decode cX1_join 49 = .ok (.bipush 35, 2) := by decide +kernel
theorem dX1_join_51 : decode cX1_join 51 = .ok (.dup2, 1) := by decide +kernel
theorem dX1_join_52 : decode cX1_join 52 = .ok (.iaload, 1) := by decide +kernel
theorem dX1_join_53 : decode cX1_join 53 = .ok (.iconst 1, 1) := by decide +kernel
theorem dX1_join_54 : decode cX1_join 54 = .ok (.iadd, 1) := by decide +kernel
theorem dX1_join_55 : decode cX1_join 55 = .ok (.iastore, 1) := by decide +kernel
theorem dX1_join_56 : decode cX1_join 56 = .ok (.aload_n 0, 1) := by decide +kernel
theorem dX1_join_57 : decode cX1_join 57 = .ok (.aload_n 0, 1) := by decide +kernel
theorem dX1_join_58 : decode cX1_join 58 = .ok (.getfield 11, 3) := by decide +kernel
theorem dX1_join_61 : decode cX1_join 61 = .ok (.bipush 35, 2) := by decide +kernel
theorem dX1_join_63 : decode cX1_join 63 = .ok (.iaload, 1) := by decide +kernel
theorem dX1_join_64 : decode cX1_join 64 = .ok (.iload_n 1, 1) := by decide +kernel
theorem dX1_join_65 : decode cX1_join 65 = .ok (.iload_n 2, 1) := by decide +kernel
theorem dX1_join_66 : decode cX1_join 66 = .ok (.iload_n 3, 1) := by decide +kernel
theorem dX1_join_67 : decode cX1_join 67 = .ok (.iload 4, 2) := by decide +kernel
theorem dX1_join_69 : decode cX1_join 69 = .ok (.invokevirtual 49, 3) := by decide +kernel
theorem dX1_join_72 : decode cX1_join 72 = .ok (.aload_n 0, 1) := by decide +kernel
theorem dX1_join_73 : decode cX1_join 73 = .ok (.getfield 11, 3) := by decide +kernel
theorem dX1_join_76 : decode cX1_join 76 = .ok (.bipush 35, 2) := by decide +kernel
theorem dX1_join_78 : decode cX1_join 78 = .ok (.iaload, 1) := by decide +kernel
theorem dX1_join_79 : decode cX1_join 79 = .ok (.ireturn, 1) := by decide +kernel
set_option maxRecDepth 20000 in
theorem ggX1_placeOwn_X1_isPlace : GoodIn wsX1_placeOwn wsX1_isPlace := goodIn_r _ [5] (by decide +kernel) (by decide +kernel)
set_option maxRecDepth 20000 in
theorem gX1_placeOwn_X1_isPlace : GoodIn wsX1_placeOwn (va_wsS RX1 42 yX1_isPlace wsX1_isPlace) := goodIn_app (goodIn_of _ (by decide +kernel)) ggX1_placeOwn_X1_isPlace
set_option maxRecDepth 20000 in
theorem ggX1_placeOwn_X4_isCourse : GoodIn wsX1_placeOwn wsX4_isCourse := goodIn_r _ [8] (by decide +kernel) (by decide +kernel)
set_option maxRecDepth 20000 in
theorem gX1_placeOwn_X4_isCourse_n45 : GoodIn wsX1_placeOwn (wsX4_isCourse) := ggX1_placeOwn_X4_isCourse
set_option maxRecDepth 20000 in
theorem ggX1_placeOwn_X1_put : GoodIn wsX1_placeOwn wsX1_put := goodIn_r _ [12, 1, 13, 14, 15] (by decide +kernel) (by decide +kernel)
set_option maxRecDepth 20000 in
theorem gX1_placeOwn_X1_put : GoodIn wsX1_placeOwn (wsV RX1 49 RX1 yX1_put wsX1_put) := goodIn_app (goodIn_of _ (by decide +kernel)) ggX1_placeOwn_X1_put
theorem dX1_placeOwn_0 : decode cX1_placeOwn 0 = .ok (.iload_n 1, 1) := by decide +kernel
theorem dX1_placeOwn_1 : decode cX1_placeOwn 1 = .ok (.invokestatic 42, 3) := by decide +kernel
theorem dX1_placeOwn_4 : decode cX1_placeOwn 4 = .ok (.ifCond .eq 19, 3) := by decide +kernel
theorem dX1_placeOwn_7 : decode cX1_placeOwn 7 = .ok (.iload_n 2, 1) := by decide +kernel
theorem dX1_placeOwn_8 : decode cX1_placeOwn 8 = .ok (.invokestatic 42, 3) := by decide +kernel
theorem dX1_placeOwn_11 : decode cX1_placeOwn 11 = .ok (.ifCond .eq 12, 3) := by decide +kernel
theorem dX1_placeOwn_14 : decode cX1_placeOwn 14 = .ok (.iload_n 3, 1) := by decide +kernel
theorem dX1_placeOwn_15 : decode cX1_placeOwn 15 = .ok (.iload 4, 2) := by decide +kernel
theorem dX1_placeOwn_17 : decode cX1_placeOwn 17 = .ok (.invokestatic 45, 3) := by decide +kernel
theorem dX1_placeOwn_20 : decode cX1_placeOwn 20 = .ok (.ifCond .ne 7, 3) := by decide +kernel
theorem dX1_placeOwn_23 : decode cX1_placeOwn 23 = .ok (.sipush (-10002), 3) := by decide +kernel
theorem dX1_placeOwn_26 : decode cX1_placeOwn 26 = .ok (.ireturn, 1) := by decide +kernel
theorem dX1_placeOwn_27 : decode cX1_placeOwn 27 = .ok (.aload_n 0, 1) := by decide +kernel
theorem dX1_placeOwn_28 : decode cX1_placeOwn 28 = .ok (.iconst 0, 1) := by decide +kernel
theorem dX1_placeOwn_29 : decode cX1_placeOwn 29 = .ok (.iload_n 1, 1) := by decide +kernel
theorem dX1_placeOwn_30 : decode cX1_placeOwn 30 = .ok (.iload_n 2, 1) := by decide +kernel
theorem dX1_placeOwn_31 : decode cX1_placeOwn 31 = .ok (.iload_n 3, 1) := by decide +kernel
theorem dX1_placeOwn_32 : decode cX1_placeOwn 32 = .ok (.iload 4, 2) := by decide +kernel
theorem dX1_placeOwn_34 : decode cX1_placeOwn 34 = .ok (.invokevirtual 49, 3) := by decide +kernel
theorem dX1_placeOwn_37 : decode cX1_placeOwn 37 = .ok (.iconst 1, 1) := by decide +kernel
theorem dX1_placeOwn_38 : decode cX1_placeOwn 38 = .ok (.istore 5, 2) := by decide +kernel
theorem dX1_placeOwn_40 : decode cX1_placeOwn 40 = .ok (.iload 5, 2) := by decide +kernel
theorem dX1_placeOwn_42 : decode cX1_placeOwn 42 = .ok (.aload_n 0, 1) := by decide +kernel
theorem dX1_placeOwn_43 : decode cX1_placeOwn 43 = .ok (.getfield 11, 3) := by decide +kernel
theorem dX1_placeOwn_46 : decode cX1_placeOwn 46 = .ok (.bipush 35, 2) := by decide +kernel
theorem dX1_placeOwn_48 : decode cX1_placeOwn 48 = .ok (.iaload, 1) := by decide +kernel
theorem dX1_placeOwn_49 : decode cX1_placeOwn 49 = .ok (.if_icmp .gt 21, 3) := by decide +kernel
theorem dX1_placeOwn_52 : decode cX1_placeOwn 52 = .ok (.aload_n 0, 1) := by decide +kernel
theorem dX1_placeOwn_53 : decode cX1_placeOwn 53 = .ok (.getfield 11, 3) := by decide +kernel
theorem dX1_placeOwn_56 : decode cX1_placeOwn 56 = .ok (.iconst 5, 1) := by decide +kernel
theorem dX1_placeOwn_57 : decode cX1_placeOwn 57 = .ok (.iload 5, 2) := by decide +kernel
theorem dX1_placeOwn_59 : decode cX1_placeOwn 59 = .ok (.imul, 1) := by decide +kernel
theorem dX1_placeOwn_60 : decode cX1_placeOwn 60 = .ok (.iconst 4, 1) := by decide +kernel
theorem dX1_placeOwn_61 : decode cX1_placeOwn 61 = .ok (.iadd, 1) := by decide +kernel
theorem dX1_placeOwn_62 : decode cX1_placeOwn 62 = .ok (.iconst 0, 1) := by decide +kernel
theorem dX1_placeOwn_63 : decode cX1_placeOwn 63 = .ok (.iastore, 1) := by decide +kernel
theorem dX1_placeOwn_64 : decode cX1_placeOwn 64 = .ok (.iinc 5 1, 3) := by decide +kernel
theorem dX1_placeOwn_67 : decode cX1_placeOwn 67 = .ok (.goto (-27), 3) := by decide +kernel
theorem dX1_placeOwn_70 : decode cX1_placeOwn 70 = .ok (.aload_n 0, 1) := by decide +kernel
theorem dX1_placeOwn_71 : decode cX1_placeOwn 71 = .ok (.getfield 11, 3) := by decide +kernel
theorem dX1_placeOwn_74 : decode cX1_placeOwn 74 = .ok (.bipush 38, 2) := by decide +kernel
theorem dX1_placeOwn_76 : decode cX1_placeOwn 76 = .ok (.iconst 0, 1) := by decide +kernel
theorem dX1_placeOwn_77 : decode cX1_placeOwn 77 = .ok (.iastore, 1) := by decide +kernel
theorem dX1_placeOwn_78 : decode cX1_placeOwn 78 = .ok (.aload_n 0, 1) := by decide +kernel
theorem dX1_placeOwn_79 : decode cX1_placeOwn 79 = .ok (.getfield 11, 3) := by decide +kernel
theorem dX1_placeOwn_82 : decode cX1_placeOwn 82 = .ok (.bipush 35, 2) := by decide +kernel
theorem dX1_placeOwn_84 : decode cX1_placeOwn 84 = .ok (.iaload, 1) := by decide +kernel
theorem dX1_placeOwn_85 : decode cX1_placeOwn 85 = .ok (.ireturn, 1) := by decide +kernel
theorem dX1_put_0 : decode cX1_put 0 = .ok (.iconst 5, 1) := by decide +kernel
theorem dX1_put_1 : decode cX1_put 1 = .ok (.iload_n 1, 1) := by decide +kernel
theorem dX1_put_2 : decode cX1_put 2 = .ok (.imul, 1) := by decide +kernel
theorem dX1_put_3 : decode cX1_put 3 = .ok (.istore 6, 2) := by decide +kernel
theorem dX1_put_5 : decode cX1_put 5 = .ok (.aload_n 0, 1) := by decide +kernel
theorem dX1_put_6 : decode cX1_put 6 = .ok (.getfield 11, 3) := by decide +kernel
theorem dX1_put_9 : decode cX1_put 9 = .ok (.iload 6, 2) := by decide +kernel
theorem dX1_put_11 : decode cX1_put 11 = .ok (.iconst 0, 1) := by decide +kernel
theorem dX1_put_12 : decode cX1_put 12 = .ok (.iadd, 1) := by decide +kernel
theorem dX1_put_13 : decode cX1_put 13 = .ok (.iload_n 2, 1) := by decide +kernel
theorem dX1_put_14 : decode cX1_put 14 = .ok (.iastore, 1) := by decide +kernel
theorem dX1_put_15 : decode cX1_put 15 = .ok (.aload_n 0, 1) := by decide +kernel
theorem dX1_put_16 : decode cX1_put 16 = .ok (.getfield 11, 3) := by decide +kernel
theorem dX1_put_19 : decode cX1_put 19 = .ok (.iload 6, 2) := by decide +kernel
theorem dX1_put_21 : decode cX1_put 21 = .ok (.iconst 1, 1) := by decide +kernel
theorem dX1_put_22 : decode cX1_put 22 = .ok (.iadd, 1) := by decide +kernel
theorem dX1_put_23 : decode cX1_put 23 = .ok (.iload_n 3, 1) := by decide +kernel
theorem dX1_put_24 : decode cX1_put 24 = .ok (.iastore, 1) := by decide +kernel
theorem dX1_put_25 : decode cX1_put 25 = .ok (.aload_n 0, 1) := by decide +kernel
theorem dX1_put_26 : decode cX1_put 26 = .ok (.getfield 11, 3) := by decide +kernel
theorem dX1_put_29 : decode cX1_put 29 = .ok (.iload 6, 2) := by decide +kernel
theorem dX1_put_31 : decode cX1_put 31 = .ok (.iconst 2, 1) := by decide +kernel
theorem dX1_put_32 : decode cX1_put 32 = .ok (.iadd, 1) := by decide +kernel
theorem dX1_put_33 : decode cX1_put 33 = .ok (.iload 4, 2) := by decide +kernel
theorem dX1_put_35 : decode cX1_put 35 = .ok (.iastore, 1) := by decide +kernel
theorem dX1_put_36 : decode cX1_put 36 = .ok (.aload_n 0, 1) := by decide +kernel
theorem dX1_put_37 : decode cX1_put 37 = .ok (.getfield 11, 3) := by decide +kernel
theorem dX1_put_40 : decode cX1_put 40 = .ok (.iload 6, 2) := by decide +kernel
theorem dX1_put_42 : decode cX1_put 42 = .ok (.iconst 3, 1) := by decide +kernel
theorem dX1_put_43 : decode cX1_put 43 = .ok (.iadd, 1) := by decide +kernel
theorem dX1_put_44 : decode cX1_put 44 = .ok (.iload 5, 2) := by decide +kernel
theorem dX1_put_46 : decode cX1_put 46 = .ok (.iastore, 1) := by decide +kernel
theorem dX1_put_47 : decode cX1_put 47 = .ok (.aload_n 0, 1) := by decide +kernel
theorem dX1_put_48 : decode cX1_put 48 = .ok (.getfield 11, 3) := by decide +kernel
theorem dX1_put_51 : decode cX1_put 51 = .ok (.iload 6, 2) := by decide +kernel
theorem dX1_put_53 : decode cX1_put 53 = .ok (.iconst 4, 1) := by decide +kernel
theorem dX1_put_54 : decode cX1_put 54 = .ok (.iadd, 1) := by decide +kernel
theorem dX1_put_55 : decode cX1_put 55 = .ok (.iconst 0, 1) := by decide +kernel
theorem dX1_put_56 : decode cX1_put 56 = .ok (.iastore, 1) := by decide +kernel
theorem dX1_put_57 : decode cX1_put 57 = .ok (.return_, 1) := by decide +kernel
set_option maxRecDepth 20000 in
theorem ggX1_leave_X1_isOther : GoodIn wsX1_leave wsX1_isOther := goodIn_r _ [10, 1, 11, 12, 13] (by decide +kernel) (by decide +kernel)
set_option maxRecDepth 20000 in
theorem gX1_leave_X1_isOther : GoodIn wsX1_leave (wsV RX1 53 RX1 yX1_isOther wsX1_isOther) := goodIn_app (goodIn_of _ (by decide +kernel)) ggX1_leave_X1_isOther
theorem dX1_leave_0 : decode cX1_leave 0 = .ok (.aload_n 0, 1) := by decide +kernel
theorem dX1_leave_1 : decode cX1_leave 1 = .ok (.iload_n 1, 1) := by decide +kernel
theorem dX1_leave_2 : decode cX1_leave 2 = .ok (.invokevirtual 53, 3) := by decide +kernel
theorem dX1_leave_5 : decode cX1_leave 5 = .ok (.ifCond .ne 7, 3) := by decide +kernel
theorem dX1_leave_8 : decode cX1_leave 8 = .ok (.sipush (-10002), 3) := by decide +kernel
theorem dX1_leave_11 : decode cX1_leave 11 = .ok (.ireturn, 1) := by decide +kernel
theorem dX1_leave_12 : decode cX1_leave 12 = .ok (.aload_n 0, 1) := by decide +kernel
theorem dX1_leave_13 : decode cX1_leave 13 = .ok (.getfield 11, 3) := by decide +kernel
theorem dX1_leave_16 : decode cX1_leave 16 = .ok (.bipush 35, 2) := by decide +kernel
theorem dX1_leave_18 : decode cX1_leave 18 = .ok (.iaload, 1) := by decide +kernel
theorem dX1_leave_19 : decode cX1_leave 19 = .ok (.iload_n 1, 1) := by decide +kernel
theorem dX1_leave_20 : decode cX1_leave 20 = .ok (.isub, 1) := by decide +kernel
theorem dX1_leave_21 : decode cX1_leave 21 = .ok (.istore_n 2, 1) := by decide +kernel
theorem dX1_leave_22 : decode cX1_leave 22 = .ok (.aload_n 0, 1) := by decide +kernel
theorem dX1_leave_23 : decode cX1_leave 23 = .ok (.getfield 11, 3) := by decide +kernel
theorem dX1_leave_26 : decode cX1_leave 26 = .ok (.iconst 5, 1) := by decide +kernel
theorem dX1_leave_27 : decode cX1_leave 27 = .ok (.iload_n 1, 1) := by decide +kernel
theorem dX1_leave_28 : decode cX1_leave 28 = .ok (.iconst 1, 1) := by decide +kernel
theorem dX1_leave_29 : decode cX1_leave 29 = .ok (.iadd, 1) := by decide +kernel
theorem dX1_leave_30 : decode cX1_leave 30 = .ok (.imul, 1) := by decide +kernel
theorem dX1_leave_31 : decode cX1_leave 31 = .ok (.aload_n 0, 1) := by decide +kernel
theorem dX1_leave_32 : decode cX1_leave 32 = .ok (.getfield 11, 3) := by decide +kernel
theorem dX1_leave_35 : decode cX1_leave 35 = .ok (.iconst 5, 1) := by decide +kernel
theorem dX1_leave_36 : decode cX1_leave 36 = .ok (.iload_n 1, 1) := by decide +kernel
theorem dX1_leave_37 : decode cX1_leave 37 = .ok (.imul, 1) := by decide +kernel
theorem dX1_leave_38 : decode cX1_leave 38 = .ok (.iconst 5, 1) := by decide +kernel
theorem dX1_leave_39 : decode cX1_leave 39 = .ok (.iload_n 2, 1) := by decide +kernel
theorem dX1_leave_40 : decode cX1_leave 40 = .ok (.imul, 1) := by decide +kernel
theorem dX1_leave_41 : decode cX1_leave 41 = .ok (.invokestatic 56, 3) := by decide +kernel
theorem dX1_leave_44 : decode cX1_leave 44 = .ok (.aload_n 0, 1) := by decide +kernel
theorem dX1_leave_45 : decode cX1_leave 45 = .ok (.getfield 11, 3) := by decide +kernel
theorem dX1_leave_48 : decode cX1_leave 48 = .ok (.bipush 35, 2) := by decide +kernel
theorem dX1_leave_50 : decode cX1_leave 50 = .ok (.dup2, 1) := by decide +kernel
theorem dX1_leave_51 : decode cX1_leave 51 = .ok (.iaload, 1) := by decide +kernel
theorem dX1_leave_52 : decode cX1_leave 52 = .ok (.iconst 1, 1) := by decide +kernel
theorem dX1_leave_53 : decode cX1_leave 53 = .ok (.isub, 1) := by decide +kernel
theorem dX1_leave_54 : decode cX1_leave 54 = .ok (.iastore, 1) := by decide +kernel
theorem dX1_leave_55 : decode cX1_leave 55 = .ok (.aload_n 0, 1) := by decide +kernel
theorem dX1_leave_56 : decode cX1_leave 56 = .ok (.getfield 11, 3) := by decide +kernel
theorem dX1_leave_59 : decode cX1_leave 59 = .ok (.bipush 35, 2) := by decide +kernel
theorem dX1_leave_61 : decode cX1_leave 61 = .ok (.iaload, 1) := by decide +kernel
theorem dX1_leave_62 : decode cX1_leave 62 = .ok (.ireturn, 1) := by decide +kernel
set_option maxRecDepth 20000 in
theorem ggX1_steer_X1_isShip : GoodIn wsX1_steer wsX1_isShip := goodIn_r _ [6, 1, 10, 11, 12] (by decide +kernel) (by decide +kernel)
set_option maxRecDepth 20000 in
theorem gX1_steer_X1_isShip : GoodIn wsX1_steer (wsV RX1 25 RX1 yX1_isShip wsX1_isShip) := goodIn_app (goodIn_of _ (by decide +kernel)) ggX1_steer_X1_isShip
set_option maxRecDepth 20000 in
theorem ggX1_steer_X4_isCourse : GoodIn wsX1_steer wsX4_isCourse := goodIn_r _ [9] (by decide +kernel) (by decide +kernel)
set_option maxRecDepth 20000 in
theorem gX1_steer_X4_isCourse_n45 : GoodIn wsX1_steer (wsX4_isCourse) := ggX1_steer_X4_isCourse
theorem dX1_steer_0 : decode cX1_steer 0 = .ok (.aload_n 0, 1) := by decide +kernel
theorem dX1_steer_1 : decode cX1_steer 1 = .ok (.iload_n 1, 1) := by decide +kernel
theorem dX1_steer_2 : decode cX1_steer 2 = .ok (.invokevirtual 25, 3) := by decide +kernel
theorem dX1_steer_5 : decode cX1_steer 5 = .ok (.ifCond .eq 11, 3) := by decide +kernel
theorem dX1_steer_8 : decode cX1_steer 8 = .ok (.iload_n 2, 1) := by decide +kernel
theorem dX1_steer_9 : decode cX1_steer 9 = .ok (.iload_n 3, 1) := by decide +kernel
theorem dX1_steer_10 : decode cX1_steer 10 = .ok (.invokestatic 45, 3) := by decide +kernel
theorem dX1_steer_13 : decode cX1_steer 13 = .ok (.ifCond .ne 7, 3) := by decide +kernel
theorem dX1_steer_16 : decode cX1_steer 16 = .ok (.sipush (-10002), 3) := by decide +kernel
theorem dX1_steer_19 : decode cX1_steer 19 = .ok (.ireturn, 1) := by decide +kernel
theorem dX1_steer_20 : decode cX1_steer 20 = .ok (.bipush 16, 2) := by decide +kernel
theorem dX1_steer_22 : decode cX1_steer 22 = .ok (.aload_n 0, 1) := by decide +kernel
theorem dX1_steer_23 : decode cX1_steer 23 = .ok (.getfield 11, 3) := by decide +kernel
theorem dX1_steer_26 : decode cX1_steer 26 = .ok (.iconst 5, 1) := by decide +kernel
theorem dX1_steer_27 : decode cX1_steer 27 = .ok (.iload_n 1, 1) := by decide +kernel
theorem dX1_steer_28 : decode cX1_steer 28 = .ok (.imul, 1) := by decide +kernel
theorem dX1_steer_29 : decode cX1_steer 29 = .ok (.iconst 3, 1) := by decide +kernel
theorem dX1_steer_30 : decode cX1_steer 30 = .ok (.iadd, 1) := by decide +kernel
theorem dX1_steer_31 : decode cX1_steer 31 = .ok (.iaload, 1) := by decide +kernel
theorem dX1_steer_32 : decode cX1_steer 32 = .ok (.imul, 1) := by decide +kernel
theorem dX1_steer_33 : decode cX1_steer 33 = .ok (.aload_n 0, 1) := by decide +kernel
theorem dX1_steer_34 : decode cX1_steer 34 = .ok (.getfield 11, 3) := by decide +kernel
theorem dX1_steer_37 : decode cX1_steer 37 = .ok (.iconst 5, 1) := by decide +kernel
theorem dX1_steer_38 : decode cX1_steer 38 = .ok (.iload_n 1, 1) := by decide +kernel
theorem dX1_steer_39 : decode cX1_steer 39 = .ok (.imul, 1) := by decide +kernel
theorem dX1_steer_40 : decode cX1_steer 40 = .ok (.iconst 2, 1) := by decide +kernel
theorem dX1_steer_41 : decode cX1_steer 41 = .ok (.iadd, 1) := by decide +kernel
theorem dX1_steer_42 : decode cX1_steer 42 = .ok (.iaload, 1) := by decide +kernel
theorem dX1_steer_43 : decode cX1_steer 43 = .ok (.iadd, 1) := by decide +kernel
theorem dX1_steer_44 : decode cX1_steer 44 = .ok (.istore 4, 2) := by decide +kernel
theorem dX1_steer_46 : decode cX1_steer 46 = .ok (.aload_n 0, 1) := by decide +kernel
theorem dX1_steer_47 : decode cX1_steer 47 = .ok (.getfield 11, 3) := by decide +kernel
theorem dX1_steer_50 : decode cX1_steer 50 = .ok (.iconst 5, 1) := by decide +kernel
theorem dX1_steer_51 : decode cX1_steer 51 = .ok (.iload_n 1, 1) := by decide +kernel
theorem dX1_steer_52 : decode cX1_steer 52 = .ok (.imul, 1) := by decide +kernel
theorem dX1_steer_53 : decode cX1_steer 53 = .ok (.iconst 2, 1) := by decide +kernel
theorem dX1_steer_54 : decode cX1_steer 54 = .ok (.iadd, 1) := by decide +kernel
theorem dX1_steer_55 : decode cX1_steer 55 = .ok (.iload_n 2, 1) := by decide +kernel
theorem dX1_steer_56 : decode cX1_steer 56 = .ok (.iastore, 1) := by decide +kernel
theorem dX1_steer_57 : decode cX1_steer 57 = .ok (.aload_n 0, 1) := by decide +kernel
theorem dX1_steer_58 : decode cX1_steer 58 = .ok (.getfield 11, 3) := by decide +kernel
theorem dX1_steer_61 : decode cX1_steer 61 = .ok (.iconst 5, 1) := by decide +kernel
theorem dX1_steer_62 : decode cX1_steer 62 = .ok (.iload_n 1, 1) := by decide +kernel
theorem dX1_steer_63 : decode cX1_steer 63 = .ok (.imul, 1) := by decide +kernel
theorem dX1_steer_64 : decode cX1_steer 64 = .ok (.iconst 3, 1) := by decide +kernel
theorem dX1_steer_65 : decode cX1_steer 65 = .ok (.iadd, 1) := by decide +kernel
theorem dX1_steer_66 : decode cX1_steer 66 = .ok (.iload_n 3, 1) := by decide +kernel
theorem dX1_steer_67 : decode cX1_steer 67 = .ok (.iastore, 1) := by decide +kernel
theorem dX1_steer_68 : decode cX1_steer 68 = .ok (.iload 4, 2) := by decide +kernel
theorem dX1_steer_70 : decode cX1_steer 70 = .ok (.ireturn, 1) := by decide +kernel
theorem dX1_setRule_0 : decode cX1_setRule 0 = .ok (.iload_n 1, 1) := by decide +kernel
theorem dX1_setRule_1 : decode cX1_setRule 1 = .ok (.ifCond .lt 29, 3) := by decide +kernel
theorem dX1_setRule_4 : decode cX1_setRule 4 = .ok (.iload_n 1, 1) := by decide +kernel
theorem dX1_setRule_5 : decode cX1_setRule 5 = .ok (.iconst 1, 1) := by decide +kernel
theorem dX1_setRule_6 : decode cX1_setRule 6 = .ok (.if_icmp .gt 24, 3) := by decide +kernel
theorem dX1_setRule_9 : decode cX1_setRule 9 = .ok (.iload_n 2, 1) := by decide +kernel
theorem dX1_setRule_10 : decode cX1_setRule 10 = .ok (.iconst 1, 1) := by decide +kernel
theorem dX1_setRule_11 : decode cX1_setRule 11 = .ok (.if_icmp .lt 19, 3) := by decide +kernel
theorem dX1_setRule_14 : decode cX1_setRule 14 = .ok (.iload_n 2, 1) := by decide +kernel
theorem dX1_setRule_15 : decode cX1_setRule 15 = .ok (.iload_n 1, 1) := by decide +kernel
theorem dX1_setRule_16 : decode cX1_setRule 16 = .ok (.ifCond .ne 9, 3) := by decide +kernel
theorem dX1_setRule_19 : decode cX1_setRule 19 = .ok (.sipush 999, 3) := by decide +kernel
theorem dX1_setRule_22 : decode cX1_setRule 22 = .ok (.goto 5, 3) := by decide +kernel
theorem dX1_setRule_25 : decode cX1_setRule 25 = .ok (.bipush 99, 2) := by decide +kernel
theorem dX1_setRule_27 : decode cX1_setRule 27 = .ok (.if_icmp .le 7, 3) := by decide +kernel
theorem dX1_setRule_30 : decode cX1_setRule 30 = .ok (.sipush (-10002), 3) := by decide +kernel
theorem dX1_setRule_33 : decode cX1_setRule 33 = .ok (.ireturn, 1) := by decide +kernel
theorem dX1_setRule_34 : decode cX1_setRule 34 = .ok (.aload_n 0, 1) := by decide +kernel
theorem dX1_setRule_35 : decode cX1_setRule 35 = .ok (.getfield 11, 3) := by decide +kernel
theorem dX1_setRule_38 : decode cX1_setRule 38 = .ok (.bipush 36, 2) := by decide +kernel
theorem dX1_setRule_40 : decode cX1_setRule 40 = .ok (.iload_n 1, 1) := by decide +kernel
theorem dX1_setRule_41 : decode cX1_setRule 41 = .ok (.iadd, 1) := by decide +kernel
theorem dX1_setRule_42 : decode cX1_setRule 42 = .ok (.iaload, 1) := by decide +kernel
theorem dX1_setRule_43 : decode cX1_setRule 43 = .ok (.istore_n 3, 1) := by decide +kernel
theorem dX1_setRule_44 : decode cX1_setRule 44 = .ok (.aload_n 0, 1) := by decide +kernel
theorem dX1_setRule_45 : decode cX1_setRule 45 = .ok (.getfield 11, 3) := by decide +kernel
theorem dX1_setRule_48 : decode cX1_setRule 48 = .ok (.bipush 36, 2) := by decide +kernel
theorem dX1_setRule_50 : decode cX1_setRule 50 = .ok (.iload_n 1, 1) := by decide +kernel
theorem dX1_setRule_51 : decode cX1_setRule 51 = .ok (.iadd, 1) := by decide +kernel
theorem dX1_setRule_52 : decode cX1_setRule 52 = .ok (.iload_n 2, 1) := by decide +kernel
theorem dX1_setRule_53 : decode cX1_setRule 53 = .ok (.iastore, 1) := by decide +kernel
theorem dX1_setRule_54 : decode cX1_setRule 54 = .ok (.iload_n 3, 1) := by decide +kernel
theorem dX1_setRule_55 : decode cX1_setRule 55 = .ok (.ireturn, 1) := by decide +kernel
set_option maxRecDepth 20000 in
theorem ggX1_goOn_X1_staysInside : GoodIn wsX1_goOn wsX1_staysInside := goodIn_r _ [6, 1, 7, 8, 9, 5, 10, 11, 12, 13, 14, 15, 16, 17, 18, 19, 74, 75, 76] (by decide +kernel) (by decide +kernel)
set_option maxRecDepth 20000 in
theorem gX1_goOn_X1_staysInside : GoodIn wsX1_goOn (wsV RX1 62 RX1 yX1_staysInside wsX1_staysInside) := goodIn_app (goodIn_of _ (by decide +kernel)) ggX1_goOn_X1_staysInside
set_option maxRecDepth 20000 in
theorem ggX1_goOn_X1_moveAll : GoodIn wsX1_goOn wsX1_moveAll := goodIn_r _ [23, 1, 7, 8, 9, 5, 10, 11, 15, 16, 17, 18, 19, 74, 75, 76] (by decide +kernel) (by decide +kernel)
set_option maxRecDepth 20000 in
theorem gX1_goOn_X1_moveAll : GoodIn wsX1_goOn (wsV RX1 65 RX1 yX1_moveAll wsX1_moveAll) := goodIn_app (goodIn_of _ (by decide +kernel)) ggX1_goOn_X1_moveAll
set_option maxRecDepth 20000 in
theorem ggX1_goOn_X1_look : GoodIn wsX1_goOn wsX1_look := goodIn_r _ [27, 1, 28, 29, 30, 5, 31, 32, 33, 34, 35, 36, 37, 38, 39, 40, 11, 19, 41, 42, 43, 44, 45, 46, 47, 48, 49, 50, 51, 52, 53, 54, 55, 56, 57, 58, 59, 60, 61, 62, 63, 64, 65, 66, 67, 68, 69, 74, 75, 76, 77, 78, 79, 80] (by decide +kernel) (by decide +kernel)
set_option maxRecDepth 20000 in
theorem gX1_goOn_X1_look : GoodIn wsX1_goOn (wsV RX1 68 RX1 yX1_look wsX1_look) := goodIn_app (goodIn_of _ (by decide +kernel)) ggX1_goOn_X1_look
set_option maxRecDepth 20000 in
theorem ggX1_goOn_X1_givenWay : GoodIn wsX1_goOn wsX1_givenWay := goodIn_r _ [73, 1, 74, 75, 76] (by decide +kernel) (by decide +kernel)
set_option maxRecDepth 20000 in
theorem gX1_goOn_X1_givenWay : GoodIn wsX1_goOn (wsV RX1 71 RX1 yX1_givenWay wsX1_givenWay) := goodIn_app (goodIn_of _ (by decide +kernel)) ggX1_goOn_X1_givenWay
theorem dX1_goOn_0 : decode cX1_goOn 0 = .ok (.iload_n 1, 1) := by decide +kernel
theorem dX1_goOn_1 : decode cX1_goOn 1 = .ok (.iconst 1, 1) := by decide +kernel
theorem dX1_goOn_2 : decode cX1_goOn 2 = .ok (.if_icmp .lt 9, 3) := by decide +kernel
theorem dX1_goOn_5 : decode cX1_goOn 5 = .ok (.iload_n 1, 1) := by decide +kernel
theorem dX1_goOn_6 : decode cX1_goOn 6 = .ok (.bipush 60, 2) := by decide +kernel
theorem dX1_goOn_8 : decode cX1_goOn 8 = .ok (.if_icmp .le 7, 3) := by decide +kernel
theorem dX1_goOn_11 : decode cX1_goOn 11 = .ok (.sipush (-10002), 3) := by decide +kernel
theorem dX1_goOn_14 : decode cX1_goOn 14 = .ok (.ireturn, 1) := by decide +kernel
theorem dX1_goOn_15 : decode cX1_goOn 15 = .ok (.aload_n 0, 1) := by decide +kernel
theorem dX1_goOn_16 : decode cX1_goOn 16 = .ok (.iload_n 1, 1) := by decide +kernel
theorem dX1_goOn_17 : decode cX1_goOn 17 = .ok (.invokevirtual 62, 3) := by decide +kernel
theorem dX1_goOn_20 : decode cX1_goOn 20 = .ok (.ifCond .ne 7, 3) := by decide +kernel
theorem dX1_goOn_23 : decode cX1_goOn 23 = .ok (.sipush (-10003), 3) := by decide +kernel
theorem dX1_goOn_26 : decode cX1_goOn 26 = .ok (.ireturn, 1) := by decide +kernel
theorem dX1_goOn_27 : decode cX1_goOn 27 = .ok (.iconst 0, 1) := by decide +kernel
theorem dX1_goOn_28 : decode cX1_goOn 28 = .ok (.istore_n 2, 1) := by decide +kernel
theorem dX1_goOn_29 : decode cX1_goOn 29 = .ok (.iload_n 2, 1) := by decide +kernel
theorem dX1_goOn_30 : decode cX1_goOn 30 = .ok (.iload_n 1, 1) := by decide +kernel
theorem dX1_goOn_31 : decode cX1_goOn 31 = .ok (.if_icmp .ge 17, 3) := by decide +kernel
theorem dX1_goOn_34 : decode cX1_goOn 34 = .ok (.aload_n 0, 1) := by decide +kernel
theorem dX1_goOn_35 : decode cX1_goOn 35 = .ok (.invokevirtual 65, 3) := by decide +kernel
theorem dX1_goOn_38 : decode cX1_goOn 38 = .ok (.aload_n 0, 1) := by decide +kernel
theorem dX1_goOn_39 : decode cX1_goOn 39 = .ok (.invokevirtual 68, 3) := by decide +kernel
theorem dX1_goOn_42 : decode cX1_goOn 42 = .ok (.iinc 2 1, 3) := by decide +kernel
theorem dX1_goOn_45 : decode cX1_goOn 45 = .ok (.goto (-16), 3) := by decide +kernel
theorem dX1_goOn_48 : decode cX1_goOn 48 = .ok (.aload_n 0, 1) := by decide +kernel
theorem dX1_goOn_49 : decode cX1_goOn 49 = .ok (.getfield 11, 3) := by decide +kernel
theorem dX1_goOn_52 : decode cX1_goOn 52 = .ok (.bipush 38, 2) := by decide +kernel
theorem dX1_goOn_54 : decode cX1_goOn 54 = .ok (.dup2, 1) := by decide +kernel
theorem dX1_goOn_55 : decode cX1_goOn 55 = .ok (.iaload, 1) := by decide +kernel
theorem dX1_goOn_56 : decode cX1_goOn 56 = .ok (.iload_n 1, 1) := by decide +kernel
end
section
theorem dX1_goOn_57 : decode cX1_goOn 57 = .ok (.iadd, 1) := by decide +kernel
theorem dX1_goOn_58 : decode cX1_goOn 58 = .ok (.iastore, 1) := by decide +kernel
theorem dX1_goOn_59 : decode cX1_goOn 59 = .ok (.aload_n 0, 1) := by decide +kernel
theorem dX1_goOn_60 : decode cX1_goOn 60 = .ok (.invokevirtual 71, 3) := by decide +kernel
theorem dX1_goOn_63 : decode cX1_goOn 63 = .ok (.ireturn, 1) := by decide +kernel
set_option maxRecDepth 20000 in
theorem ggX1_staysInside_X1_eastward : GoodIn wsX1_staysInside wsX1_eastward := goodIn_r _ [6, 1, 7, 16, 17, 18] (by decide +kernel) (by decide +kernel)
set_option maxRecDepth 20000 in
theorem gX1_staysInside_X1_eastward : GoodIn wsX1_staysInside (wsV RX1 29 RX1 yX1_eastward wsX1_eastward) := goodIn_app (goodIn_of _ (by decide +kernel)) ggX1_staysInside_X1_eastward
set_option maxRecDepth 20000 in
theorem ggX1_staysInside_X1_isPlace : GoodIn wsX1_staysInside wsX1_isPlace := goodIn_r _ [10] (by decide +kernel) (by decide +kernel)
set_option maxRecDepth 20000 in
theorem gX1_staysInside_X1_isPlace : GoodIn wsX1_staysInside (va_wsS RX1 42 yX1_isPlace wsX1_isPlace) := goodIn_app (goodIn_of _ (by decide +kernel)) ggX1_staysInside_X1_isPlace
set_option maxRecDepth 20000 in
theorem ggX1_staysInside_X1_northward : GoodIn wsX1_staysInside wsX1_northward := goodIn_r _ [14, 1, 15, 16, 17, 18] (by decide +kernel) (by decide +kernel)
set_option maxRecDepth 20000 in
theorem gX1_staysInside_X1_northward : GoodIn wsX1_staysInside (wsV RX1 33 RX1 yX1_northward wsX1_northward) := goodIn_app (goodIn_of _ (by decide +kernel)) ggX1_staysInside_X1_northward
theorem dX1_staysInside_0 : decode cX1_staysInside 0 = .ok (.iconst 0, 1) := by decide +kernel
theorem dX1_staysInside_1 : decode cX1_staysInside 1 = .ok (.istore_n 2, 1) := by decide +kernel
theorem dX1_staysInside_2 : decode cX1_staysInside 2 = .ok (.iload_n 2, 1) := by decide +kernel
theorem dX1_staysInside_3 : decode cX1_staysInside 3 = .ok (.aload_n 0, 1) := by decide +kernel
theorem dX1_staysInside_4 : decode cX1_staysInside 4 = .ok (.getfield 11, 3) := by decide +kernel
theorem dX1_staysInside_7 : decode cX1_staysInside 7 = .ok (.bipush 35, 2) := by decide +kernel
theorem dX1_staysInside_9 : decode cX1_staysInside 9 = .ok (.iaload, 1) := by decide +kernel
theorem dX1_staysInside_10 : decode cX1_staysInside 10 = .ok (.if_icmp .gt 61, 3) := by decide +kernel
theorem dX1_staysInside_13 : decode cX1_staysInside 13 = .ok (.aload_n 0, 1) := by decide +kernel
theorem dX1_staysInside_14 : decode cX1_staysInside 14 = .ok (.getfield 11, 3) := by decide +kernel
theorem dX1_staysInside_17 : decode cX1_staysInside 17 = .ok (.iconst 5, 1) := by decide +kernel
theorem dX1_staysInside_18 : decode cX1_staysInside 18 = .ok (.iload_n 2, 1) := by decide +kernel
theorem dX1_staysInside_19 : decode cX1_staysInside 19 = .ok (.imul, 1) := by decide +kernel
theorem dX1_staysInside_20 : decode cX1_staysInside 20 = .ok (.iconst 0, 1) := by decide +kernel
theorem dX1_staysInside_21 : decode cX1_staysInside 21 = .ok (.iadd, 1) := by decide +kernel
theorem dX1_staysInside_22 : decode cX1_staysInside 22 = .ok (.iaload, 1) := by decide +kernel
theorem dX1_staysInside_23 : decode cX1_staysInside 23 = .ok (.iload_n 1, 1) := by decide +kernel
theorem dX1_staysInside_24 : decode cX1_staysInside 24 = .ok (.aload_n 0, 1) := by decide +kernel
theorem dX1_staysInside_25 : decode cX1_staysInside 25 = .ok (.iload_n 2, 1) := by decide +kernel
theorem dX1_staysInside_26 : decode cX1_staysInside 26 = .ok (.invokevirtual 29, 3) := by decide +kernel
theorem dX1_staysInside_29 : decode cX1_staysInside 29 = .ok (.imul, 1) := by decide +kernel
theorem dX1_staysInside_30 : decode cX1_staysInside 30 = .ok (.iadd, 1) := by decide +kernel
theorem dX1_staysInside_31 : decode cX1_staysInside 31 = .ok (.invokestatic 42, 3) := by decide +kernel
theorem dX1_staysInside_34 : decode cX1_staysInside 34 = .ok (.ifCond .ne 5, 3) := by decide +kernel
theorem dX1_staysInside_37 : decode cX1_staysInside 37 = .ok (.iconst 0, 1) := by decide +kernel
theorem dX1_staysInside_38 : decode cX1_staysInside 38 = .ok (.ireturn, 1) := by decide +kernel
theorem dX1_staysInside_39 : decode cX1_staysInside 39 = .ok (.aload_n 0, 1) := by decide +kernel
theorem dX1_staysInside_40 : decode cX1_staysInside 40 = .ok (.getfield 11, 3) := by decide +kernel
theorem dX1_staysInside_43 : decode cX1_staysInside 43 = .ok (.iconst 5, 1) := by decide +kernel
theorem dX1_staysInside_44 : decode cX1_staysInside 44 = .ok (.iload_n 2, 1) := by decide +kernel
theorem dX1_staysInside_45 : decode cX1_staysInside 45 = .ok (.imul, 1) := by decide +kernel
theorem dX1_staysInside_46 : decode cX1_staysInside 46 = .ok (.iconst 1, 1) := by decide +kernel
theorem dX1_staysInside_47 : decode cX1_staysInside 47 = .ok (.iadd, 1) := by decide +kernel
theorem dX1_staysInside_48 : decode cX1_staysInside 48 = .ok (.iaload, 1) := by decide +kernel
theorem dX1_staysInside_49 : decode cX1_staysInside 49 = .ok (.iload_n 1, 1) := by decide +kernel
theorem dX1_staysInside_50 : decode cX1_staysInside 50 = .ok (.aload_n 0, 1) := by decide +kernel
theorem dX1_staysInside_51 : decode cX1_staysInside 51 = .ok (.iload_n 2, 1) := by decide +kernel
theorem dX1_staysInside_52 : decode cX1_staysInside 52 = .ok (.invokevirtual 33, 3) := by decide +kernel
theorem dX1_staysInside_55 : decode cX1_staysInside 55 = .ok (.imul, 1) := by decide +kernel
theorem dX1_staysInside_56 : decode cX1_staysInside 56 = .ok (.iadd, 1) := by decide +kernel
theorem dX1_staysInside_57 : decode cX1_staysInside 57 = .ok (.invokestatic 42, 3) := by decide +kernel
theorem dX1_staysInside_60 : decode cX1_staysInside 60 = .ok (.ifCond .ne 5, 3) := by decide +kernel
theorem dX1_staysInside_63 : decode cX1_staysInside 63 = .ok (.iconst 0, 1) := by decide +kernel
theorem dX1_staysInside_64 : decode cX1_staysInside 64 = .ok (.ireturn, 1) := by decide +kernel
theorem dX1_staysInside_65 : decode cX1_staysInside 65 = .ok (.iinc 2 1, 3) := by decide +kernel
theorem dX1_staysInside_68 : decode cX1_staysInside 68 = .ok (.goto (-66), 3) := by decide +kernel
theorem dX1_staysInside_71 : decode cX1_staysInside 71 = .ok (.iconst 1, 1) := by decide +kernel
theorem dX1_staysInside_72 : decode cX1_staysInside 72 = .ok (.ireturn, 1) := by decide +kernel
set_option maxRecDepth 20000 in
theorem ggX1_moveAll_X1_eastward : GoodIn wsX1_moveAll wsX1_eastward := goodIn_r _ [6, 1, 7, 13, 14, 15] (by decide +kernel) (by decide +kernel)
set_option maxRecDepth 20000 in
theorem gX1_moveAll_X1_eastward : GoodIn wsX1_moveAll (wsV RX1 29 RX1 yX1_eastward wsX1_eastward) := goodIn_app (goodIn_of _ (by decide +kernel)) ggX1_moveAll_X1_eastward
set_option maxRecDepth 20000 in
theorem ggX1_moveAll_X1_northward : GoodIn wsX1_moveAll wsX1_northward := goodIn_r _ [11, 1, 12, 13, 14, 15] (by decide +kernel) (by decide +kernel)
set_option maxRecDepth 20000 in
theorem gX1_moveAll_X1_northward : GoodIn wsX1_moveAll (wsV RX1 33 RX1 yX1_northward wsX1_northward) := goodIn_app (goodIn_of _ (by decide +kernel)) ggX1_moveAll_X1_northward
theorem dX1_moveAll_0 : decode cX1_moveAll 0 = .ok (.iconst 0, 1) := by decide +kernel
theorem dX1_moveAll_1 : decode cX1_moveAll 1 = .ok (.istore_n 1, 1) := by decide +kernel
theorem dX1_moveAll_2 : decode cX1_moveAll 2 = .ok (.iload_n 1, 1) := by decide +kernel
theorem dX1_moveAll_3 : decode cX1_moveAll 3 = .ok (.aload_n 0, 1) := by decide +kernel
theorem dX1_moveAll_4 : decode cX1_moveAll 4 = .ok (.getfield 11, 3) := by decide +kernel
theorem dX1_moveAll_7 : decode cX1_moveAll 7 = .ok (.bipush 35, 2) := by decide +kernel
theorem dX1_moveAll_9 : decode cX1_moveAll 9 = .ok (.iaload, 1) := by decide +kernel
theorem dX1_moveAll_10 : decode cX1_moveAll 10 = .ok (.if_icmp .gt 45, 3) := by decide +kernel
theorem dX1_moveAll_13 : decode cX1_moveAll 13 = .ok (.aload_n 0, 1) := by decide +kernel
theorem dX1_moveAll_14 : decode cX1_moveAll 14 = .ok (.getfield 11, 3) := by decide +kernel
theorem dX1_moveAll_17 : decode cX1_moveAll 17 = .ok (.iconst 5, 1) := by decide +kernel
theorem dX1_moveAll_18 : decode cX1_moveAll 18 = .ok (.iload_n 1, 1) := by decide +kernel
theorem dX1_moveAll_19 : decode cX1_moveAll 19 = .ok (.imul, 1) := by decide +kernel
theorem dX1_moveAll_20 : decode cX1_moveAll 20 = .ok (.iconst 0, 1) := by decide +kernel
theorem dX1_moveAll_21 : decode cX1_moveAll 21 = .ok (.iadd, 1) := by decide +kernel
theorem dX1_moveAll_22 : decode cX1_moveAll 22 = .ok (.dup2, 1) := by decide +kernel
theorem dX1_moveAll_23 : decode cX1_moveAll 23 = .ok (.iaload, 1) := by decide +kernel
theorem dX1_moveAll_24 : decode cX1_moveAll 24 = .ok (.aload_n 0, 1) := by decide +kernel
theorem dX1_moveAll_25 : decode cX1_moveAll 25 = .ok (.iload_n 1, 1) := by decide +kernel
theorem dX1_moveAll_26 : decode cX1_moveAll 26 = .ok (.invokevirtual 29, 3) := by decide +kernel
theorem dX1_moveAll_29 : decode cX1_moveAll 29 = .ok (.iadd, 1) := by decide +kernel
theorem dX1_moveAll_30 : decode cX1_moveAll 30 = .ok (.iastore, 1) := by decide +kernel
theorem dX1_moveAll_31 : decode cX1_moveAll 31 = .ok (.aload_n 0, 1) := by decide +kernel
theorem dX1_moveAll_32 : decode cX1_moveAll 32 = .ok (.getfield 11, 3) := by decide +kernel
theorem dX1_moveAll_35 : decode cX1_moveAll 35 = .ok (.iconst 5, 1) := by decide +kernel
theorem dX1_moveAll_36 : decode cX1_moveAll 36 = .ok (.iload_n 1, 1) := by decide +kernel
theorem dX1_moveAll_37 : decode cX1_moveAll 37 = .ok (.imul, 1) := by decide +kernel
theorem dX1_moveAll_38 : decode cX1_moveAll 38 = .ok (.iconst 1, 1) := by decide +kernel
theorem dX1_moveAll_39 : decode cX1_moveAll 39 = .ok (.iadd, 1) := by decide +kernel
theorem dX1_moveAll_40 : decode cX1_moveAll 40 = .ok (.dup2, 1) := by decide +kernel
theorem dX1_moveAll_41 : decode cX1_moveAll 41 = .ok (.iaload, 1) := by decide +kernel
theorem dX1_moveAll_42 : decode cX1_moveAll 42 = .ok (.aload_n 0, 1) := by decide +kernel
theorem dX1_moveAll_43 : decode cX1_moveAll 43 = .ok (.iload_n 1, 1) := by decide +kernel
theorem dX1_moveAll_44 : decode cX1_moveAll 44 = .ok (.invokevirtual 33, 3) := by decide +kernel
theorem dX1_moveAll_47 : decode cX1_moveAll 47 = .ok (.iadd, 1) := by decide +kernel
theorem dX1_moveAll_48 : decode cX1_moveAll 48 = .ok (.iastore, 1) := by decide +kernel
theorem dX1_moveAll_49 : decode cX1_moveAll 49 = .ok (.iinc 1 1, 3) := by decide +kernel
theorem dX1_moveAll_52 : decode cX1_moveAll 52 = .ok (.goto (-50), 3) := by decide +kernel
theorem dX1_moveAll_55 : decode cX1_moveAll 55 = .ok (.return_, 1) := by decide +kernel
set_option maxRecDepth 20000 in
theorem ggX1_look_X1_tableOf : GoodIn wsX1_look wsX1_tableOf := goodIn_r _ [6, 7, 8, 9, 5, 10, 1, 11, 12, 13, 14, 15, 16, 17, 18, 19, 20, 21, 22, 23, 24, 25, 26, 27, 28, 29, 30, 31, 32, 33, 34, 35, 36, 37, 38, 47, 48, 49, 50, 51, 52, 53] (by decide +kernel) (by decide +kernel)
set_option maxRecDepth 20000 in
theorem gX1_look_X1_tableOf : GoodIn wsX1_look (wsV RX1 75 RX1 yX1_tableOf wsX1_tableOf) := goodIn_app (goodIn_of _ (by decide +kernel)) ggX1_look_X1_tableOf
set_option maxRecDepth 20000 in
theorem ggX1_look_X1_approachOf : GoodIn wsX1_look wsX1_approachOf := goodIn_r _ [42, 1, 11, 12, 13, 14, 5, 15, 16, 17, 18, 19, 20, 21, 47, 48, 49, 50, 51, 52, 53] (by decide +kernel) (by decide +kernel)
set_option maxRecDepth 20000 in
theorem gX1_look_X1_approachOf : GoodIn wsX1_look (wsV RX1 79 RX1 yX1_approachOf wsX1_approachOf) := goodIn_app (goodIn_of _ (by decide +kernel)) ggX1_look_X1_approachOf
set_option maxRecDepth 20000 in
theorem ggX1_look_X0_isPastAndClear : GoodIn wsX1_look wsX0_isPastAndClear := goodIn_r _ [46, 29, 27, 50, 51, 52, 53] (by decide +kernel) (by decide +kernel)
set_option maxRecDepth 20000 in
theorem gX1_look_X0_isPastAndClear : GoodIn wsX1_look (wsV RX1 83 RX0 yX0_isPastAndClear wsX0_isPastAndClear) := goodIn_app (goodIn_of _ (by decide +kernel)) ggX1_look_X0_isPastAndClear
theorem dX1_look_0 : decode cX1_look 0 = .ok (.iconst 1, 1) := by decide +kernel
theorem dX1_look_1 : decode cX1_look 1 = .ok (.istore_n 1, 1) := by decide +kernel
theorem dX1_look_2 : decode cX1_look 2 = .ok (.iload_n 1, 1) := by decide +kernel
theorem dX1_look_3 : decode cX1_look 3 = .ok (.aload_n 0, 1) := by decide +kernel
theorem dX1_look_4 : decode cX1_look 4 = .ok (.getfield 11, 3) := by decide +kernel
theorem dX1_look_7 : decode cX1_look 7 = .ok (.bipush 35, 2) := by decide +kernel
theorem dX1_look_9 : decode cX1_look 9 = .ok (.iaload, 1) := by decide +kernel
theorem dX1_look_10 : decode cX1_look 10 = .ok (.if_icmp .gt 72, 3) := by decide +kernel
theorem dX1_look_13 : decode cX1_look 13 = .ok (.aload_n 0, 1) := by decide +kernel
theorem dX1_look_14 : decode cX1_look 14 = .ok (.getfield 11, 3) := by decide +kernel
theorem dX1_look_17 : decode cX1_look 17 = .ok (.iconst 5, 1) := by decide +kernel
theorem dX1_look_18 : decode cX1_look 18 = .ok (.iload_n 1, 1) := by decide +kernel
theorem dX1_look_19 : decode cX1_look 19 = .ok (.imul, 1) := by decide +kernel
theorem dX1_look_20 : decode cX1_look 20 = .ok (.iconst 4, 1) := by decide +kernel
theorem dX1_look_21 : decode cX1_look 21 = .ok (.iadd, 1) := by decide +kernel
theorem dX1_look_22 : decode cX1_look 22 = .ok (.iaload, 1) := by decide +kernel
theorem dX1_look_23 : decode cX1_look 23 = .ok (.ifCond .ne 22, 3) := by decide +kernel
theorem dX1_look_26 : decode cX1_look 26 = .ok (.aload_n 0, 1) := by decide +kernel
theorem dX1_look_27 : decode cX1_look 27 = .ok (.getfield 11, 3) := by decide +kernel
theorem dX1_look_30 : decode cX1_look 30 = .ok (.iconst 5, 1) := by decide +kernel
theorem dX1_look_31 : decode cX1_look 31 = .ok (.iload_n 1, 1) := by decide +kernel
theorem dX1_look_32 : decode cX1_look 32 = .ok (.imul, 1) := by decide +kernel
theorem dX1_look_33 : decode cX1_look 33 = .ok (.iconst 4, 1) := by decide +kernel
theorem dX1_look_34 : decode cX1_look 34 = .ok (.iadd, 1) := by decide +kernel
theorem dX1_look_35 : decode cX1_look 35 = .ok (.aload_n 0, 1) := by decide +kernel
theorem dX1_look_36 : decode cX1_look 36 = .ok (.iconst 0, 1) := by decide +kernel
theorem dX1_look_37 : decode cX1_look 37 = .ok (.iload_n 1, 1) := by decide +kernel
theorem dX1_look_38 : decode cX1_look 38 = .ok (.invokevirtual 75, 3) := by decide +kernel
theorem dX1_look_41 : decode cX1_look 41 = .ok (.iastore, 1) := by decide +kernel
theorem dX1_look_42 : decode cX1_look 42 = .ok (.goto 34, 3) := by decide +kernel
theorem dX1_look_45 : decode cX1_look 45 = .ok (.aload_n 0, 1) := by decide +kernel
theorem dX1_look_46 : decode cX1_look 46 = .ok (.iconst 0, 1) := by decide +kernel
theorem dX1_look_47 : decode cX1_look 47 = .ok (.iload_n 1, 1) := by decide +kernel
theorem dX1_look_48 : decode cX1_look 48 = .ok (.invokevirtual 79, 3) := by decide +kernel
theorem dX1_look_51 : decode cX1_look 51 = .ok (.aload_n 0, 1) := by decide +kernel
theorem dX1_look_52 : decode cX1_look 52 = .ok (.getfield 11, 3) := by decide +kernel
theorem dX1_look_55 : decode cX1_look 55 = .ok (.bipush 36, 2) := by decide +kernel
theorem dX1_look_57 : decode cX1_look 57 = .ok (.iaload, 1) := by decide +kernel
theorem dX1_look_58 : decode cX1_look 58 = .ok (.i2l, 1) := by decide +kernel
theorem dX1_look_59 : decode cX1_look 59 = .ok (.invokevirtual 83, 3) := by decide +kernel
theorem dX1_look_62 : decode cX1_look 62 = .ok (.ifCond .eq 14, 3) := by decide +kernel
theorem dX1_look_65 : decode cX1_look 65 = .ok (.aload_n 0, 1) := by decide +kernel
theorem dX1_look_66 : decode cX1_look 66 = .ok (.getfield 11, 3) := by decide +kernel
theorem dX1_look_69 : decode cX1_look 69 = .ok (.iconst 5, 1) := by decide +kernel
theorem dX1_look_70 : decode cX1_look 70 = .ok (.iload_n 1, 1) := by decide +kernel
theorem dX1_look_71 : decode cX1_look 71 = .ok (.imul, 1) := by decide +kernel
theorem dX1_look_72 : decode cX1_look 72 = .ok (.iconst 4, 1) := by decide +kernel
theorem dX1_look_73 : decode cX1_look 73 = .ok (.iadd, 1) := by decide +kernel
theorem dX1_look_74 : decode cX1_look 74 = .ok (.iconst 0, 1) := by decide +kernel
theorem dX1_look_75 : decode cX1_look 75 = .ok (.iastore, 1) := by decide +kernel
theorem dX1_look_76 : decode cX1_look 76 = .ok (.iinc 1 1, 3) := by decide +kernel
theorem dX1_look_79 : decode cX1_look 79 = .ok (.goto (-77), 3) := by decide +kernel
theorem dX1_look_82 : decode cX1_look 82 = .ok (.return_, 1) := by decide +kernel
theorem dX1_givenWay_0 : decode cX1_givenWay 0 = .ok (.iconst 0, 1) := by decide +kernel
theorem dX1_givenWay_1 : decode cX1_givenWay 1 = .ok (.istore_n 1, 1) := by decide +kernel
theorem dX1_givenWay_2 : decode cX1_givenWay 2 = .ok (.iconst 1, 1) := by decide +kernel
theorem dX1_givenWay_3 : decode cX1_givenWay 3 = .ok (.istore_n 2, 1) := by decide +kernel
theorem dX1_givenWay_4 : decode cX1_givenWay 4 = .ok (.iload_n 2, 1) := by decide +kernel
theorem dX1_givenWay_5 : decode cX1_givenWay 5 = .ok (.aload_n 0, 1) := by decide +kernel
theorem dX1_givenWay_6 : decode cX1_givenWay 6 = .ok (.getfield 11, 3) := by decide +kernel
theorem dX1_givenWay_9 : decode cX1_givenWay 9 = .ok (.bipush 35, 2) := by decide +kernel
theorem dX1_givenWay_11 : decode cX1_givenWay 11 = .ok (.iaload, 1) := by decide +kernel
theorem dX1_givenWay_12 : decode cX1_givenWay 12 = .ok (.if_icmp .gt 29, 3) := by decide +kernel
theorem dX1_givenWay_15 : decode cX1_givenWay 15 = .ok (.aload_n 0, 1) := by decide +kernel
theorem dX1_givenWay_16 : decode cX1_givenWay 16 = .ok (.getfield 11, 3) := by decide +kernel
theorem dX1_givenWay_19 : decode cX1_givenWay 19 = .ok (.iconst 5, 1) := by decide +kernel
theorem dX1_givenWay_20 : decode cX1_givenWay 20 = .ok (.iload_n 2, 1) := by decide +kernel
theorem dX1_givenWay_21 : decode cX1_givenWay 21 = .ok (.imul, 1) := by decide +kernel
theorem dX1_givenWay_22 : decode cX1_givenWay 22 = .ok (.iconst 4, 1) := by decide +kernel
theorem dX1_givenWay_23 : decode cX1_givenWay 23 = .ok (.iadd, 1) := by decide +kernel
theorem dX1_givenWay_24 : decode cX1_givenWay 24 = .ok (.iaload, 1) := by decide +kernel
theorem dX1_givenWay_25 : decode cX1_givenWay 25 = .ok (.iconst 1, 1) := by decide +kernel
theorem dX1_givenWay_26 : decode cX1_givenWay 26 = .ok (.if_icmp .ne 9, 3) := by decide +kernel
theorem dX1_givenWay_29 : decode cX1_givenWay 29 = .ok (.iload_n 1, 1) := by decide +kernel
theorem dX1_givenWay_30 : decode cX1_givenWay 30 = .ok (.iconst 1, 1) := by decide +kernel
theorem dX1_givenWay_31 : decode cX1_givenWay 31 = .ok (.iload_n 2, 1) := by decide +kernel
theorem dX1_givenWay_32 : decode cX1_givenWay 32 = .ok (.ishl, 1) := by decide +kernel
theorem dX1_givenWay_33 : decode cX1_givenWay 33 = .ok (.ior, 1) := by decide +kernel
theorem dX1_givenWay_34 : decode cX1_givenWay 34 = .ok (.istore_n 1, 1) := by decide +kernel
theorem dX1_givenWay_35 : decode cX1_givenWay 35 = .ok (.iinc 2 1, 3) := by decide +kernel
theorem dX1_givenWay_38 : decode cX1_givenWay 38 = .ok (.goto (-34), 3) := by decide +kernel
theorem dX1_givenWay_41 : decode cX1_givenWay 41 = .ok (.iload_n 1, 1) := by decide +kernel
theorem dX1_givenWay_42 : decode cX1_givenWay 42 = .ok (.ireturn, 1) := by decide +kernel
theorem dX1_follow_0 : decode cX1_follow 0 = .ok (.iload_n 1, 1) := by decide +kernel
theorem dX1_follow_1 : decode cX1_follow 1 = .ok (.bipush 16, 2) := by decide +kernel
theorem dX1_follow_3 : decode cX1_follow 3 = .ok (.if_icmp .ge 10, 3) := by decide +kernel
theorem dX1_follow_6 : decode cX1_follow 6 = .ok (.aload_n 0, 1) := by decide +kernel
theorem dX1_follow_7 : decode cX1_follow 7 = .ok (.getfield 11, 3) := by decide +kernel
theorem dX1_follow_10 : decode cX1_follow 10 = .ok (.iconst 2, 1) := by decide +kernel
theorem dX1_follow_11 : decode cX1_follow 11 = .ok (.iload_n 1, 1) := by decide +kernel
theorem dX1_follow_12 : decode cX1_follow 12 = .ok (.iastore, 1) := by decide +kernel
theorem dX1_follow_13 : decode cX1_follow 13 = .ok (.iload_n 1, 1) := by decide +kernel
theorem dX1_follow_14 : decode cX1_follow 14 = .ok (.bipush 16, 2) := by decide +kernel
theorem dX1_follow_16 : decode cX1_follow 16 = .ok (.if_icmp .ne 10, 3) := by decide +kernel
theorem dX1_follow_19 : decode cX1_follow 19 = .ok (.aload_n 0, 1) := by decide +kernel
theorem dX1_follow_20 : decode cX1_follow 20 = .ok (.getfield 11, 3) := by decide +kernel
theorem dX1_follow_23 : decode cX1_follow 23 = .ok (.iconst 3, 1) := by decide +kernel
theorem dX1_follow_24 : decode cX1_follow 24 = .ok (.iconst 0, 1) := by decide +kernel
theorem dX1_follow_25 : decode cX1_follow 25 = .ok (.iastore, 1) := by decide +kernel
theorem dX1_follow_26 : decode cX1_follow 26 = .ok (.iload_n 1, 1) := by decide +kernel
theorem dX1_follow_27 : decode cX1_follow 27 = .ok (.ireturn, 1) := by decide +kernel
set_option maxRecDepth 20000 in
theorem ggX1_approachOf_X1_measure : GoodIn wsX1_approachOf wsX1_measure := goodIn_r _ [7, 1, 8, 9, 2, 10, 11, 12, 13, 14, 15, 16, 17, 18, 19, 20] (by decide +kernel) (by decide +kernel)
set_option maxRecDepth 20000 in
theorem gX1_approachOf_X1_measure : GoodIn wsX1_approachOf (wsV RX1 87 RX1 yX1_measure wsX1_measure) := goodIn_app (goodIn_of _ (by decide +kernel)) ggX1_approachOf_X1_measure
theorem dX1_approachOf_0 : decode cX1_approachOf 0 = .ok (.aload_n 0, 1) := by decide +kernel
theorem dX1_approachOf_1 : decode cX1_approachOf 1 = .ok (.iload_n 1, 1) := by decide +kernel
theorem dX1_approachOf_2 : decode cX1_approachOf 2 = .ok (.aload_n 0, 1) := by decide +kernel
theorem dX1_approachOf_3 : decode cX1_approachOf 3 = .ok (.getfield 11, 3) := by decide +kernel
theorem dX1_approachOf_6 : decode cX1_approachOf 6 = .ok (.iconst 5, 1) := by decide +kernel
theorem dX1_approachOf_7 : decode cX1_approachOf 7 = .ok (.iload_n 1, 1) := by decide +kernel
theorem dX1_approachOf_8 : decode cX1_approachOf 8 = .ok (.imul, 1) := by decide +kernel
theorem dX1_approachOf_9 : decode cX1_approachOf 9 = .ok (.iconst 2, 1) := by decide +kernel
theorem dX1_approachOf_10 : decode cX1_approachOf 10 = .ok (.iadd, 1) := by decide +kernel
theorem dX1_approachOf_11 : decode cX1_approachOf 11 = .ok (.iaload, 1) := by decide +kernel
theorem dX1_approachOf_12 : decode cX1_approachOf 12 = .ok (.aload_n 0, 1) := by decide +kernel
theorem dX1_approachOf_13 : decode cX1_approachOf 13 = .ok (.getfield 11, 3) := by decide +kernel
theorem dX1_approachOf_16 : decode cX1_approachOf 16 = .ok (.iconst 5, 1) := by decide +kernel
theorem dX1_approachOf_17 : decode cX1_approachOf 17 = .ok (.iload_n 1, 1) := by decide +kernel
theorem dX1_approachOf_18 : decode cX1_approachOf 18 = .ok (.imul, 1) := by decide +kernel
theorem dX1_approachOf_19 : decode cX1_approachOf 19 = .ok (.iconst 3, 1) := by decide +kernel
theorem dX1_approachOf_20 : decode cX1_approachOf 20 = .ok (.iadd, 1) := by decide +kernel
theorem dX1_approachOf_21 : decode cX1_approachOf 21 = .ok (.iaload, 1) := by decide +kernel
theorem dX1_approachOf_22 : decode cX1_approachOf 22 = .ok (.iload_n 2, 1) := by decide +kernel
theorem dX1_approachOf_23 : decode cX1_approachOf 23 = .ok (.invokevirtual 87, 3) := by decide +kernel
theorem dX1_approachOf_26 : decode cX1_approachOf 26 = .ok (.aload_n 0, 1) := by decide +kernel
theorem dX1_approachOf_27 : decode cX1_approachOf 27 = .ok (.getfield 18, 3) := by decide +kernel
theorem dX1_approachOf_30 : decode cX1_approachOf 30 = .ok (.areturn, 1) := by decide +kernel
set_option maxRecDepth 20000 in
theorem ggX1_haveRisk_X1_measure : GoodIn wsX1_haveRisk wsX1_measure := goodIn_r _ [7, 1, 8, 9, 2, 10, 11, 12, 13, 23, 24, 25, 26, 27, 28, 29] (by decide +kernel) (by decide +kernel)
set_option maxRecDepth 20000 in
theorem gX1_haveRisk_X1_measure : GoodIn wsX1_haveRisk (wsV RX1 87 RX1 yX1_measure wsX1_measure) := goodIn_app (goodIn_of _ (by decide +kernel)) ggX1_haveRisk_X1_measure
set_option maxRecDepth 20000 in
theorem ggX1_haveRisk_X0_isRisk : GoodIn wsX1_haveRisk wsX0_isRisk := goodIn_r _ [18, 19, 20, 21, 22, 26, 27, 28, 29] (by decide +kernel) (by decide +kernel)
set_option maxRecDepth 20000 in
theorem gX1_haveRisk_X0_isRisk : GoodIn wsX1_haveRisk (wsV RX1 91 RX0 yX0_isRisk wsX0_isRisk) := goodIn_app (goodIn_of _ (by decide +kernel)) ggX1_haveRisk_X0_isRisk
theorem dX1_haveRisk_0 : decode cX1_haveRisk 0 = .ok (.aload_n 0, 1) := by decide +kernel
theorem dX1_haveRisk_1 : decode cX1_haveRisk 1 = .ok (.iload_n 1, 1) := by decide +kernel
theorem dX1_haveRisk_2 : decode cX1_haveRisk 2 = .ok (.aload_n 0, 1) := by decide +kernel
theorem dX1_haveRisk_3 : decode cX1_haveRisk 3 = .ok (.getfield 11, 3) := by decide +kernel
theorem dX1_haveRisk_6 : decode cX1_haveRisk 6 = .ok (.iconst 5, 1) := by decide +kernel
theorem dX1_haveRisk_7 : decode cX1_haveRisk 7 = .ok (.iload_n 1, 1) := by decide +kernel
theorem dX1_haveRisk_8 : decode cX1_haveRisk 8 = .ok (.imul, 1) := by decide +kernel
theorem dX1_haveRisk_9 : decode cX1_haveRisk 9 = .ok (.iconst 2, 1) := by decide +kernel
theorem dX1_haveRisk_10 : decode cX1_haveRisk 10 = .ok (.iadd, 1) := by decide +kernel
theorem dX1_haveRisk_11 : decode cX1_haveRisk 11 = .ok (.iaload, 1) := by decide +kernel
theorem dX1_haveRisk_12 : decode cX1_haveRisk 12 = .ok (.aload_n 0, 1) := by decide +kernel
theorem dX1_haveRisk_13 : decode cX1_haveRisk 13 = .ok (.getfield 11, 3) := by decide +kernel
theorem dX1_haveRisk_16 : decode cX1_haveRisk 16 = .ok (.iconst 5, 1) := by decide +kernel
theorem dX1_haveRisk_17 : decode cX1_haveRisk 17 = .ok (.iload_n 1, 1) := by decide +kernel
theorem dX1_haveRisk_18 : decode cX1_haveRisk 18 = .ok (.imul, 1) := by decide +kernel
theorem dX1_haveRisk_19 : decode cX1_haveRisk 19 = .ok (.iconst 3, 1) := by decide +kernel
theorem dX1_haveRisk_20 : decode cX1_haveRisk 20 = .ok (.iadd, 1) := by decide +kernel
theorem dX1_haveRisk_21 : decode cX1_haveRisk 21 = .ok (.iaload, 1) := by decide +kernel
theorem dX1_haveRisk_22 : decode cX1_haveRisk 22 = .ok (.iload_n 2, 1) := by decide +kernel
theorem dX1_haveRisk_23 : decode cX1_haveRisk 23 = .ok (.invokevirtual 87, 3) := by decide +kernel
theorem dX1_haveRisk_26 : decode cX1_haveRisk 26 = .ok (.aload_n 0, 1) := by decide +kernel
theorem dX1_haveRisk_27 : decode cX1_haveRisk 27 = .ok (.getfield 18, 3) := by decide +kernel
theorem dX1_haveRisk_30 : decode cX1_haveRisk 30 = .ok (.aload_n 0, 1) := by decide +kernel
theorem dX1_haveRisk_31 : decode cX1_haveRisk 31 = .ok (.getfield 11, 3) := by decide +kernel
theorem dX1_haveRisk_34 : decode cX1_haveRisk 34 = .ok (.bipush 36, 2) := by decide +kernel
theorem dX1_haveRisk_36 : decode cX1_haveRisk 36 = .ok (.iaload, 1) := by decide +kernel
theorem dX1_haveRisk_37 : decode cX1_haveRisk 37 = .ok (.i2l, 1) := by decide +kernel
theorem dX1_haveRisk_38 : decode cX1_haveRisk 38 = .ok (.aload_n 0, 1) := by decide +kernel
theorem dX1_haveRisk_39 : decode cX1_haveRisk 39 = .ok (.getfield 11, 3) := by decide +kernel
theorem dX1_haveRisk_42 : decode cX1_haveRisk 42 = .ok (.bipush 37, 2) := by decide +kernel
theorem dX1_haveRisk_44 : decode cX1_haveRisk 44 = .ok (.iaload, 1) := by decide +kernel
theorem dX1_haveRisk_45 : decode cX1_haveRisk 45 = .ok (.i2l, 1) := by decide +kernel
theorem dX1_haveRisk_46 : decode cX1_haveRisk 46 = .ok (.invokevirtual 91, 3) := by decide +kernel
theorem dX1_haveRisk_49 : decode cX1_haveRisk 49 = .ok (.ireturn, 1) := by decide +kernel
set_option maxRecDepth 20000 in
theorem ggX1_wouldRisk_X1_measure : GoodIn wsX1_wouldRisk wsX1_measure := goodIn_r _ [7, 2, 8, 9, 1, 10, 11, 12, 13, 23, 24, 25, 26, 27, 28, 29] (by decide +kernel) (by decide +kernel)
set_option maxRecDepth 20000 in
theorem gX1_wouldRisk_X1_measure : GoodIn wsX1_wouldRisk (wsV RX1 87 RX1 yX1_measure wsX1_measure) := goodIn_app (goodIn_of _ (by decide +kernel)) ggX1_wouldRisk_X1_measure
set_option maxRecDepth 20000 in
theorem ggX1_wouldRisk_X0_isRisk : GoodIn wsX1_wouldRisk wsX0_isRisk := goodIn_r _ [18, 19, 20, 21, 22, 26, 27, 28, 29] (by decide +kernel) (by decide +kernel)
set_option maxRecDepth 20000 in
theorem gX1_wouldRisk_X0_isRisk : GoodIn wsX1_wouldRisk (wsV RX1 91 RX0 yX0_isRisk wsX0_isRisk) := goodIn_app (goodIn_of _ (by decide +kernel)) ggX1_wouldRisk_X0_isRisk
theorem dX1_wouldRisk_0 : decode cX1_wouldRisk 0 = .ok (.aload_n 0, 1) := by decide +kernel
theorem dX1_wouldRisk_1 : decode cX1_wouldRisk 1 = .ok (.iload_n 1, 1) := by decide +kernel
theorem dX1_wouldRisk_2 : decode cX1_wouldRisk 2 = .ok (.iload_n 2, 1) := by decide +kernel
theorem dX1_wouldRisk_3 : decode cX1_wouldRisk 3 = .ok (.iload_n 3, 1) := by decide +kernel
theorem dX1_wouldRisk_4 : decode cX1_wouldRisk 4 = .ok (.iload 4, 2) := by decide +kernel
theorem dX1_wouldRisk_6 : decode cX1_wouldRisk 6 = .ok (.invokevirtual 87, 3) := by decide +kernel
theorem dX1_wouldRisk_9 : decode cX1_wouldRisk 9 = .ok (.aload_n 0, 1) := by decide +kernel
theorem dX1_wouldRisk_10 : decode cX1_wouldRisk 10 = .ok (.getfield 18, 3) := by decide +kernel
theorem dX1_wouldRisk_13 : decode cX1_wouldRisk 13 = .ok (.aload_n 0, 1) := by decide +kernel
theorem dX1_wouldRisk_14 : decode cX1_wouldRisk 14 = .ok (.getfield 11, 3) := by decide +kernel
theorem dX1_wouldRisk_17 : decode cX1_wouldRisk 17 = .ok (.bipush 36, 2) := by decide +kernel
theorem dX1_wouldRisk_19 : decode cX1_wouldRisk 19 = .ok (.iaload, 1) := by decide +kernel
theorem dX1_wouldRisk_20 : decode cX1_wouldRisk 20 = .ok (.i2l, 1) := by decide +kernel
theorem dX1_wouldRisk_21 : decode cX1_wouldRisk 21 = .ok (.aload_n 0, 1) := by decide +kernel
theorem dX1_wouldRisk_22 : decode cX1_wouldRisk 22 = .ok (.getfield 11, 3) := by decide +kernel
theorem dX1_wouldRisk_25 : decode cX1_wouldRisk 25 = .ok (.bipush 37, 2) := by decide +kernel
theorem dX1_wouldRisk_27 : decode cX1_wouldRisk 27 = .ok (.iaload, 1) := by decide +kernel
theorem dX1_wouldRisk_28 : decode cX1_wouldRisk 28 = .ok (.i2l, 1) := by decide +kernel
theorem dX1_wouldRisk_29 : decode cX1_wouldRisk 29 = .ok (.invokevirtual 91, 3) := by decide +kernel
theorem dX1_wouldRisk_32 : decode cX1_wouldRisk 32 = .ok (.ireturn, 1) := by decide +kernel
theorem dX1_measure_0 : decode cX1_measure 0 = .ok (.aload_n 0, 1) := by decide +kernel
theorem dX1_measure_1 : decode cX1_measure 1 = .ok (.getfield 11, 3) := by decide +kernel
theorem dX1_measure_4 : decode cX1_measure 4 = .ok (.iconst 5, 1) := by decide +kernel
theorem dX1_measure_5 : decode cX1_measure 5 = .ok (.iload 4, 2) := by decide +kernel
theorem dX1_measure_7 : decode cX1_measure 7 = .ok (.imul, 1) := by decide +kernel
theorem dX1_measure_8 : decode cX1_measure 8 = .ok (.iconst 2, 1) := by decide +kernel
theorem dX1_measure_9 : decode cX1_measure 9 = .ok (.iadd, 1) := by decide +kernel
theorem dX1_measure_10 : decode cX1_measure 10 = .ok (.iaload, 1) := by decide +kernel
theorem dX1_measure_11 : decode cX1_measure 11 = .ok (.istore 5, 2) := by decide +kernel
theorem dX1_measure_13 : decode cX1_measure 13 = .ok (.aload_n 0, 1) := by decide +kernel
theorem dX1_measure_14 : decode cX1_measure 14 = .ok (.getfield 11, 3) := by decide +kernel
theorem dX1_measure_17 : decode cX1_measure 17 = .ok (.iconst 5, 1) := by decide +kernel
theorem dX1_measure_18 : decode cX1_measure 18 = .ok (.iload 4, 2) := by decide +kernel
theorem dX1_measure_20 : decode cX1_measure 20 = .ok (.imul, 1) := by decide +kernel
theorem dX1_measure_21 : decode cX1_measure 21 = .ok (.iconst 3, 1) := by decide +kernel
theorem dX1_measure_22 : decode cX1_measure 22 = .ok (.iadd, 1) := by decide +kernel
theorem dX1_measure_23 : decode cX1_measure 23 = .ok (.iaload, 1) := by decide +kernel
theorem dX1_measure_24 : decode cX1_measure 24 = .ok (.istore 6, 2) := by decide +kernel
theorem dX1_measure_26 : decode cX1_measure 26 = .ok (.aload_n 0, 1) := by decide +kernel
theorem dX1_measure_27 : decode cX1_measure 27 = .ok (.getfield 11, 3) := by decide +kernel
theorem dX1_measure_30 : decode cX1_measure 30 = .ok (.iconst 5, 1) := by decide +kernel
theorem dX1_measure_31 : decode cX1_measure 31 = .ok (.iload 4, 2) := by decide +kernel
theorem dX1_measure_33 : decode cX1_measure 33 = .ok (.imul, 1) := by decide +kernel
theorem dX1_measure_34 : decode cX1_measure 34 = .ok (.iconst 0, 1) := by decide +kernel
theorem dX1_measure_35 : decode cX1_measure 35 = .ok (.iadd, 1) := by decide +kernel
theorem dX1_measure_36 : decode cX1_measure 36 = .ok (.iaload, 1) := by decide +kernel
theorem dX1_measure_37 : decode cX1_measure 37 = .ok (.aload_n 0, 1) := by decide +kernel
theorem dX1_measure_38 : decode cX1_measure 38 = .ok (.getfield 11, 3) := by decide +kernel
theorem dX1_measure_41 : decode cX1_measure 41 = .ok (.iconst 5, 1) := by decide +kernel
theorem dX1_measure_42 : decode cX1_measure 42 = .ok (.iload_n 1, 1) := by decide +kernel
theorem dX1_measure_43 : decode cX1_measure 43 = .ok (.imul, 1) := by decide +kernel
theorem dX1_measure_44 : decode cX1_measure 44 = .ok (.iconst 0, 1) := by decide +kernel
theorem dX1_measure_45 : decode cX1_measure 45 = .ok (.iadd, 1) := by decide +kernel
theorem dX1_measure_46 : decode cX1_measure 46 = .ok (.iaload, 1) := by decide +kernel
theorem dX1_measure_47 : decode cX1_measure 47 = .ok (.isub, 1) := by decide +kernel
theorem dX1_measure_48 : decode cX1_measure 48 = .ok (.i2l, 1) := by decide +kernel
theorem dX1_measure_49 : decode cX1_measure 49 = .ok (.lstore 7, 2) := by decide +kernel
theorem dX1_measure_51 : decode cX1_measure 51 = .ok (.aload_n 0, 1) := by decide +kernel
theorem dX1_measure_52 : decode cX1_measure 52 = .ok (.getfield 11, 3) := by decide +kernel
theorem dX1_measure_55 : decode cX1_measure 55 = .ok (.iconst 5, 1) := by decide +kernel
theorem dX1_measure_56 : decode cX1_measure 56 = .ok (.iload 4, 2) := by decide +kernel
theorem dX1_measure_58 : decode cX1_measure 58 = .ok (.imul, 1) := by decide +kernel
theorem dX1_measure_59 : decode cX1_measure 59 = .ok (.iconst 1, 1) := by decide +kernel
theorem dX1_measure_60 : decode cX1_measure 60 = .ok (.iadd, 1) := by decide +kernel
theorem dX1_measure_61 : decode cX1_measure 61 = .ok (.iaload, 1) := by decide +kernel
theorem dX1_measure_62 : decode cX1_measure 62 = .ok (.aload_n 0, 1) := by decide +kernel
theorem dX1_measure_63 : decode cX1_measure 63 = .ok (.getfield 11, 3) := by decide +kernel
theorem dX1_measure_66 : decode cX1_measure 66 = .ok (.iconst 5, 1) := by decide +kernel
theorem dX1_measure_67 : decode cX1_measure 67 = .ok (.iload_n 1, 1) := by decide +kernel
theorem dX1_measure_68 : decode cX1_measure 68 = .ok (.imul, 1) := by decide +kernel
theorem dX1_measure_69 : decode cX1_measure 69 = .ok (.iconst 1, 1) := by decide +kernel
theorem dX1_measure_70 : decode cX1_measure 70 = .ok (.iadd, 1) := by decide +kernel
theorem dX1_measure_71 : decode cX1_measure 71 = .ok (.iaload, 1) := by decide +kernel
theorem dX1_measure_72 : decode cX1_measure 72 = .ok (.isub, 1) := by decide +kernel
theorem dX1_measure_73 : decode cX1_measure 73 = .ok (.i2l, 1) := by decide +kernel
theorem dX1_measure_74 : decode cX1_measure 74 = .ok (.lstore 9, 2) := by decide +kernel
theorem dX1_measure_76 : decode cX1_measure 76 = .ok (.iload 6, 2) := by decide +kernel
theorem dX1_measure_78 : decode cX1_measure 78 = .ok (.getstatic 36, 3) := by decide +kernel
theorem dX1_measure_81 : decode cX1_measure 81 = .ok (.iload 5, 2) := by decide +kernel
theorem dX1_measure_83 : decode cX1_measure 83 = .ok (.bipush 15, 2) := by decide +kernel
theorem dX1_measure_85 : decode cX1_measure 85 = .ok (.iand, 1) := by decide +kernel
theorem dX1_measure_86 : decode cX1_measure 86 = .ok (.iaload, 1) := by decide +kernel
theorem dX1_measure_87 : decode cX1_measure 87 = .ok (.imul, 1) := by decide +kernel
theorem dX1_measure_88 : decode cX1_measure 88 = .ok (.iload_n 3, 1) := by decide +kernel
theorem dX1_measure_89 : decode cX1_measure 89 = .ok (.getstatic 36, 3) := by decide +kernel
theorem dX1_measure_92 : decode cX1_measure 92 = .ok (.iload_n 2, 1) := by decide +kernel
theorem dX1_measure_93 : decode cX1_measure 93 = .ok (.bipush 15, 2) := by decide +kernel
theorem dX1_measure_95 : decode cX1_measure 95 = .ok (.iand, 1) := by decide +kernel
theorem dX1_measure_96 : decode cX1_measure 96 = .ok (.iaload, 1) := by decide +kernel
theorem dX1_measure_97 : decode cX1_measure 97 = .ok (.imul, 1) := by decide +kernel
theorem dX1_measure_98 : decode cX1_measure 98 = .ok (.isub, 1) := by decide +kernel
theorem dX1_measure_99 : decode cX1_measure 99 = .ok (.i2l, 1) := by decide +kernel
theorem dX1_measure_100 : decode cX1_measure 100 = .ok (.lstore 11, 2) := by decide +kernel
theorem dX1_measure_102 : decode cX1_measure 102 = .ok (.iload 6, 2) := by decide +kernel
theorem dX1_measure_104 : decode cX1_measure 104 = .ok (.getstatic 39, 3) := by decide +kernel
theorem dX1_measure_107 : decode cX1_measure 107 = .ok (.iload 5, 2) := by decide +kernel
theorem dX1_measure_109 : decode cX1_measure 109 = .ok (.bipush 15, 2) := by decide +kernel
theorem dX1_measure_111 : decode cX1_measure 111 = .ok (.iand, 1) := by decide +kernel
theorem dX1_measure_112 : decode cX1_measure 112 = .ok (.iaload, 1) := by decide +kernel
theorem dX1_measure_113 : decode cX1_measure 113 = .ok (.imul, 1) := by decide +kernel
theorem dX1_measure_114 : decode cX1_measure 114 = .ok (.iload_n 3, 1) := by decide +kernel
theorem dX1_measure_115 : decode cX1_measure 115 = .ok (.getstatic 39, 3) := by decide +kernel
theorem dX1_measure_118 : decode cX1_measure 118 = .ok (.iload_n 2, 1) := by decide +kernel
theorem dX1_measure_119 : decode cX1_measure 119 = .ok (.bipush 15, 2) := by decide +kernel
theorem dX1_measure_121 : decode cX1_measure 121 = .ok (.iand, 1) := by decide +kernel
theorem dX1_measure_122 : decode cX1_measure 122 = .ok (.iaload, 1) := by decide +kernel
theorem dX1_measure_123 : decode cX1_measure 123 = .ok (.imul, 1) := by decide +kernel
theorem dX1_measure_124 : decode cX1_measure 124 = .ok (.isub, 1) := by decide +kernel
theorem dX1_measure_125 : decode cX1_measure 125 = .ok (.i2l, 1) := by decide +kernel
theorem dX1_measure_126 : decode cX1_measure 126 = .ok (.lstore 13, 2) := by decide +kernel
theorem dX1_measure_128 : decode cX1_measure 128 = .ok (.lload 7, 2) := by decide +kernel
theorem dX1_measure_130 : decode cX1_measure 130 = .ok (.lload 11, 2) := by decide +kernel
theorem dX1_measure_132 : decode cX1_measure 132 = .ok (.lmul, 1) := by decide +kernel
theorem dX1_measure_133 : decode cX1_measure 133 = .ok (.lload 9, 2) := by decide +kernel
theorem dX1_measure_135 : decode cX1_measure 135 = .ok (.lload 13, 2) := by decide +kernel
theorem dX1_measure_137 : decode cX1_measure 137 = .ok (.lmul, 1) := by decide +kernel
theorem dX1_measure_138 : decode cX1_measure 138 = .ok (.ladd, 1) := by decide +kernel
theorem dX1_measure_139 : decode cX1_measure 139 = .ok (.lstore 15, 2) := by decide +kernel
theorem dX1_measure_141 : decode cX1_measure 141 = .ok (.lload 15, 2) := by decide +kernel
theorem dX1_measure_143 : decode cX1_measure 143 = .ok (.lconst 0, 1) := by decide +kernel
theorem dX1_measure_144 : decode cX1_measure 144 = .ok (.lcmp, 1) := by decide +kernel
theorem dX1_measure_145 : decode cX1_measure 145 = .ok (.ifCond .lt 46, 3) := by decide +kernel
theorem dX1_measure_148 : decode cX1_measure 148 = .ok (.aload_n 0, 1) := by decide +kernel
theorem dX1_measure_149 : decode cX1_measure 149 = .ok (.getfield 18, 3) := by decide +kernel
theorem dX1_measure_152 : decode cX1_measure 152 = .ok (.lconst 0, 1) := by decide +kernel
theorem dX1_measure_153 : decode cX1_measure 153 = .ok (.putfield 95, 3) := by decide +kernel
theorem dX1_measure_156 : decode cX1_measure 156 = .ok (.aload_n 0, 1) := by decide +kernel
theorem dX1_measure_157 : decode cX1_measure 157 = .ok (.getfield 18, 3) := by decide +kernel
theorem dX1_measure_160 : decode cX1_measure 160 = .ok (.lconst 1, 1) := by decide +kernel
theorem dX1_measure_161 : decode cX1_measure 161 = .ok (.putfield 99, 3) := by decide +kernel
theorem dX1_measure_164 : decode cX1_measure 164 = .ok (.aload_n 0, 1) := by decide +kernel
theorem dX1_measure_165 : decode cX1_measure 165 = .ok (.getfield 18, 3) := by decide +kernel
theorem dX1_measure_168 : decode cX1_measure 168 = .ok (.lload 7, 2) := by decide +kernel
theorem dX1_measure_170 : decode cX1_measure 170 = .ok (.lload 7, 2) := by decide +kernel
theorem dX1_measure_172 : decode cX1_measure 172 = .ok (.lmul, 1) := by decide +kernel
theorem dX1_measure_173 : decode cX1_measure 173 = .ok (.lload 9, 2) := by decide +kernel
theorem dX1_measure_175 : decode cX1_measure 175 = .ok (.lload 9, 2) := by decide +kernel
theorem dX1_measure_177 : decode cX1_measure 177 = .ok (.lmul, 1) := by decide +kernel
theorem dX1_measure_178 : decode cX1_measure 178 = .ok (.ladd, 1) := by decide +kernel
theorem dX1_measure_179 : decode cX1_measure 179 = .ok (.putfield 102, 3) := by decide +kernel
theorem dX1_measure_182 : decode cX1_measure 182 = .ok (.aload_n 0, 1) := by decide +kernel
theorem dX1_measure_183 : decode cX1_measure 183 = .ok (.getfield 18, 3) := by decide +kernel
theorem dX1_measure_186 : decode cX1_measure 186 = .ok (.lconst 1, 1) := by decide +kernel
theorem dX1_measure_187 : decode cX1_measure 187 = .ok (.putfield 105, 3) := by decide +kernel
theorem dX1_measure_190 : decode cX1_measure 190 = .ok (.return_, 1) := by decide +kernel
theorem dX1_measure_191 : decode cX1_measure 191 = .ok (.lload 7, 2) := by decide +kernel
theorem dX1_measure_193 : decode cX1_measure 193 = .ok (.lload 13, 2) := by decide +kernel
theorem dX1_measure_195 : decode cX1_measure 195 = .ok (.lmul, 1) := by decide +kernel
theorem dX1_measure_196 : decode cX1_measure 196 = .ok (.lload 9, 2) := by decide +kernel
theorem dX1_measure_198 : decode cX1_measure 198 = .ok (.lload 11, 2) := by decide +kernel
theorem dX1_measure_200 : decode cX1_measure 200 = .ok (.lmul, 1) := by decide +kernel
theorem dX1_measure_201 : decode cX1_measure 201 = .ok (.lsub, 1) := by decide +kernel
theorem dX1_measure_202 : decode cX1_measure 202 = .ok (.lstore 17, 2) := by decide +kernel
theorem dX1_measure_204 : decode cX1_measure 204 = .ok (.aload_n 0, 1) := by decide +kernel
theorem dX1_measure_205 : decode cX1_measure 205 = .ok (.getfield 18, 3) := by decide +kernel
theorem dX1_measure_208 : decode cX1_measure 208 = .ok (.lload 15, 2) := by decide +kernel
theorem dX1_measure_210 : decode cX1_measure 210 = .ok (.lneg, 1) := by decide +kernel
theorem dX1_measure_211 : decode cX1_measure 211 = .ok (.putfield 95, 3) := by decide +kernel
theorem dX1_measure_214 : decode cX1_measure 214 = .ok (.aload_n 0, 1) := by decide +kernel
theorem dX1_measure_215 : decode cX1_measure 215 = .ok (.getfield 18, 3) := by decide +kernel
theorem dX1_measure_218 : decode cX1_measure 218 = .ok (.lload 11, 2) := by decide +kernel
theorem dX1_measure_220 : decode cX1_measure 220 = .ok (.lload 11, 2) := by decide +kernel
theorem dX1_measure_222 : decode cX1_measure 222 = .ok (.lmul, 1) := by decide +kernel
theorem dX1_measure_223 : decode cX1_measure 223 = .ok (.lload 13, 2) := by decide +kernel
theorem dX1_measure_225 : decode cX1_measure 225 = .ok (.lload 13, 2) := by decide +kernel
theorem dX1_measure_227 : decode cX1_measure 227 = .ok (.lmul, 1) := by decide +kernel
theorem dX1_measure_228 : decode cX1_measure 228 = .ok (.ladd, 1) := by decide +kernel
theorem dX1_measure_229 : decode cX1_measure 229 = .ok (.putfield 99, 3) := by decide +kernel
theorem dX1_measure_232 : decode cX1_measure 232 = .ok (.aload_n 0, 1) := by decide +kernel
theorem dX1_measure_233 : decode cX1_measure 233 = .ok (.getfield 18, 3) := by decide +kernel
theorem dX1_measure_236 : decode cX1_measure 236 = .ok (.lload 17, 2) := by decide +kernel
theorem dX1_measure_238 : decode cX1_measure 238 = .ok (.lload 17, 2) := by decide +kernel
theorem dX1_measure_240 : decode cX1_measure 240 = .ok (.lmul, 1) := by decide +kernel
theorem dX1_measure_241 : decode cX1_measure 241 = .ok (.putfield 102, 3) := by decide +kernel
theorem dX1_measure_244 : decode cX1_measure 244 = .ok (.aload_n 0, 1) := by decide +kernel
theorem dX1_measure_245 : decode cX1_measure 245 = .ok (.getfield 18, 3) := by decide +kernel
theorem dX1_measure_248 : decode cX1_measure 248 = .ok (.aload_n 0, 1) := by decide +kernel
theorem dX1_measure_249 : decode cX1_measure 249 = .ok (.getfield 18, 3) := by decide +kernel
theorem dX1_measure_252 : decode cX1_measure 252 = .ok (.getfield 99, 3) := by decide +kernel
theorem dX1_measure_255 : decode cX1_measure 255 = .ok (.putfield 105, 3) := by decide +kernel
theorem dX1_measure_258 : decode cX1_measure 258 = .ok (.return_, 1) := by decide +kernel
theorem dX1_sectorOf_0 : decode cX1_sectorOf 0 = .ok (.getstatic 36, 3) := by decide +kernel
theorem dX1_sectorOf_3 : decode cX1_sectorOf 3 = .ok (.aload_n 0, 1) := by decide +kernel
theorem dX1_sectorOf_4 : decode cX1_sectorOf 4 = .ok (.getfield 11, 3) := by decide +kernel
theorem dX1_sectorOf_7 : decode cX1_sectorOf 7 = .ok (.iconst 5, 1) := by decide +kernel
theorem dX1_sectorOf_8 : decode cX1_sectorOf 8 = .ok (.iload_n 1, 1) := by decide +kernel
theorem dX1_sectorOf_9 : decode cX1_sectorOf 9 = .ok (.imul, 1) := by decide +kernel
theorem dX1_sectorOf_10 : decode cX1_sectorOf 10 = .ok (.iconst 2, 1) := by decide +kernel
theorem dX1_sectorOf_11 : decode cX1_sectorOf 11 = .ok (.iadd, 1) := by decide +kernel
theorem dX1_sectorOf_12 : decode cX1_sectorOf 12 = .ok (.iaload, 1) := by decide +kernel
theorem dX1_sectorOf_13 : decode cX1_sectorOf 13 = .ok (.bipush 15, 2) := by decide +kernel
theorem dX1_sectorOf_15 : decode cX1_sectorOf 15 = .ok (.iand, 1) := by decide +kernel
theorem dX1_sectorOf_16 : decode cX1_sectorOf 16 = .ok (.iaload, 1) := by decide +kernel
theorem dX1_sectorOf_17 : decode cX1_sectorOf 17 = .ok (.istore_n 3, 1) := by decide +kernel
theorem dX1_sectorOf_18 : decode cX1_sectorOf 18 = .ok (.getstatic 39, 3) := by decide +kernel
theorem dX1_sectorOf_21 : decode cX1_sectorOf 21 = .ok (.aload_n 0, 1) := by decide +kernel
theorem dX1_sectorOf_22 : decode cX1_sectorOf 22 = .ok (.getfield 11, 3) := by decide +kernel
theorem dX1_sectorOf_25 : decode cX1_sectorOf 25 = .ok (.iconst 5, 1) := by decide +kernel
theorem dX1_sectorOf_26 : decode cX1_sectorOf 26 = .ok (.iload_n 1, 1) := by decide +kernel
theorem dX1_sectorOf_27 : decode cX1_sectorOf 27 = .ok (.imul, 1) := by decide +kernel
theorem dX1_sectorOf_28 : decode cX1_sectorOf 28 = .ok (.iconst 2, 1) := by decide +kernel
theorem dX1_sectorOf_29 : decode cX1_sectorOf 29 = .ok (.iadd, 1) := by decide +kernel
theorem dX1_sectorOf_30 : decode cX1_sectorOf 30 = .ok (.iaload, 1) := by decide +kernel
theorem dX1_sectorOf_31 : decode cX1_sectorOf 31 = .ok (.bipush 15, 2) := by decide +kernel
theorem dX1_sectorOf_33 : decode cX1_sectorOf 33 = .ok (.iand, 1) := by decide +kernel
theorem dX1_sectorOf_34 : decode cX1_sectorOf 34 = .ok (.iaload, 1) := by decide +kernel
theorem dX1_sectorOf_35 : decode cX1_sectorOf 35 = .ok (.istore 4, 2) := by decide +kernel
theorem dX1_sectorOf_37 : decode cX1_sectorOf 37 = .ok (.aload_n 0, 1) := by decide +kernel
theorem dX1_sectorOf_38 : decode cX1_sectorOf 38 = .ok (.getfield 11, 3) := by decide +kernel
theorem dX1_sectorOf_41 : decode cX1_sectorOf 41 = .ok (.iconst 5, 1) := by decide +kernel
theorem dX1_sectorOf_42 : decode cX1_sectorOf 42 = .ok (.iload_n 2, 1) := by decide +kernel
theorem dX1_sectorOf_43 : decode cX1_sectorOf 43 = .ok (.imul, 1) := by decide +kernel
theorem dX1_sectorOf_44 : decode cX1_sectorOf 44 = .ok (.iconst 0, 1) := by decide +kernel
theorem dX1_sectorOf_45 : decode cX1_sectorOf 45 = .ok (.iadd, 1) := by decide +kernel
theorem dX1_sectorOf_46 : decode cX1_sectorOf 46 = .ok (.iaload, 1) := by decide +kernel
theorem dX1_sectorOf_47 : decode cX1_sectorOf 47 = .ok (.aload_n 0, 1) := by decide +kernel
theorem dX1_sectorOf_48 : decode cX1_sectorOf 48 = .ok (.getfield 11, 3) := by decide +kernel
theorem dX1_sectorOf_51 : decode cX1_sectorOf 51 = .ok (.iconst 5, 1) := by decide +kernel
theorem dX1_sectorOf_52 : decode cX1_sectorOf 52 = .ok (.iload_n 1, 1) := by decide +kernel
theorem dX1_sectorOf_53 : decode cX1_sectorOf 53 = .ok (.imul, 1) := by decide +kernel
theorem dX1_sectorOf_54 : decode cX1_sectorOf 54 = .ok (.iconst 0, 1) := by decide +kernel
theorem dX1_sectorOf_55 : decode cX1_sectorOf 55 = .ok (.iadd, 1) := by decide +kernel
theorem dX1_sectorOf_56 : decode cX1_sectorOf 56 = .ok (.iaload, 1) := by decide +kernel
theorem dX1_sectorOf_57 : decode cX1_sectorOf 57 = .ok (.isub, 1) := by decide +kernel
theorem dX1_sectorOf_58 : decode cX1_sectorOf 58 = .ok (.istore 5, 2) := by decide +kernel
theorem dX1_sectorOf_60 : decode cX1_sectorOf 60 = .ok (.aload_n 0, 1) := by decide +kernel
theorem dX1_sectorOf_61 : decode cX1_sectorOf 61 = .ok (.getfield 11, 3) := by decide +kernel
theorem dX1_sectorOf_64 : decode cX1_sectorOf 64 = .ok (.iconst 5, 1) := by decide +kernel
theorem dX1_sectorOf_65 : decode cX1_sectorOf 65 = .ok (.iload_n 2, 1) := by decide +kernel
theorem dX1_sectorOf_66 : decode cX1_sectorOf 66 = .ok (.imul, 1) := by decide +kernel
theorem dX1_sectorOf_67 : decode cX1_sectorOf 67 = .ok (.iconst 1, 1) := by decide +kernel
theorem dX1_sectorOf_68 : decode cX1_sectorOf 68 = .ok (.iadd, 1) := by decide +kernel
theorem dX1_sectorOf_69 : decode cX1_sectorOf 69 = .ok (.iaload, 1) := by decide +kernel
theorem dX1_sectorOf_70 : decode cX1_sectorOf 70 = .ok (.aload_n 0, 1) := by decide +kernel
theorem dX1_sectorOf_71 : decode cX1_sectorOf 71 = .ok (.getfield 11, 3) := by decide +kernel
theorem dX1_sectorOf_74 : decode cX1_sectorOf 74 = .ok (.iconst 5, 1) := by decide +kernel
theorem dX1_sectorOf_75 : decode cX1_sectorOf 75 = .ok (.iload_n 1, 1) := by decide +kernel
theorem dX1_sectorOf_76 : decode cX1_sectorOf 76 = .ok (.imul, 1) := by decide +kernel
theorem dX1_sectorOf_77 : decode cX1_sectorOf 77 = .ok (.iconst 1, 1) := by decide +kernel
theorem dX1_sectorOf_78 : decode cX1_sectorOf 78 = .ok (.iadd, 1) := by decide +kernel
theorem dX1_sectorOf_79 : decode cX1_sectorOf 79 = .ok (.iaload, 1) := by decide +kernel
theorem dX1_sectorOf_80 : decode cX1_sectorOf 80 = .ok (.isub, 1) := by decide +kernel
theorem dX1_sectorOf_81 : decode cX1_sectorOf 81 = .ok (.istore 6, 2) := by decide +kernel
theorem dX1_sectorOf_83 : decode cX1_sectorOf 83 = .ok (.iload_n 3, 1) := by decide +kernel
theorem dX1_sectorOf_84 : decode cX1_sectorOf 84 = .ok (.iload 5, 2) := by decide +kernel
theorem dX1_sectorOf_86 : decode cX1_sectorOf 86 = .ok (.imul, 1) := by decide +kernel
theorem dX1_sectorOf_87 : decode cX1_sectorOf 87 = .ok (.iload 4, 2) := by decide +kernel
theorem dX1_sectorOf_89 : decode cX1_sectorOf 89 = .ok (.iload 6, 2) := by decide +kernel
theorem dX1_sectorOf_91 : decode cX1_sectorOf 91 = .ok (.imul, 1) := by decide +kernel
theorem dX1_sectorOf_92 : decode cX1_sectorOf 92 = .ok (.iadd, 1) := by decide +kernel
theorem dX1_sectorOf_93 : decode cX1_sectorOf 93 = .ok (.istore 7, 2) := by decide +kernel
theorem dX1_sectorOf_95 : decode cX1_sectorOf 95 = .ok (.iload_n 3, 1) := by decide +kernel
theorem dX1_sectorOf_96 : decode cX1_sectorOf 96 = .ok (.iload 6, 2) := by decide +kernel
theorem dX1_sectorOf_98 : decode cX1_sectorOf 98 = .ok (.imul, 1) := by decide +kernel
theorem dX1_sectorOf_99 : decode cX1_sectorOf 99 = .ok (.iload 4, 2) := by decide +kernel
theorem dX1_sectorOf_101 : decode cX1_sectorOf 101 = .ok (.iload 5, 2) := by decide +kernel
theorem dX1_sectorOf_103 : decode cX1_sectorOf 103 = .ok (.imul, 1) := by decide +kernel
theorem dX1_sectorOf_104 : decode cX1_sectorOf 104 = .ok (.isub, 1) := by decide +kernel
theorem dX1_sectorOf_105 : decode cX1_sectorOf 105 = .ok (.istore 8, 2) := by decide +kernel
theorem dX1_sectorOf_107 : decode cX1_sectorOf 107 = .ok (.iload 5, 2) := by decide +kernel
theorem dX1_sectorOf_109 : decode cX1_sectorOf 109 = .ok (.ifCond .ne 10, 3) := by decide +kernel
theorem dX1_sectorOf_112 : decode cX1_sectorOf 112 = .ok (.iload 6, 2) := by decide +kernel
theorem dX1_sectorOf_114 : decode cX1_sectorOf 114 = .ok (.ifCond .ne 5, 3) := by decide +kernel
theorem dX1_sectorOf_117 : decode cX1_sectorOf 117 = .ok (.iconst 0, 1) := by decide +kernel
theorem dX1_sectorOf_118 : decode cX1_sectorOf 118 = .ok (.ireturn, 1) := by decide +kernel
theorem dX1_sectorOf_119 : decode cX1_sectorOf 119 = .ok (.iload 7, 2) := by decide +kernel
theorem dX1_sectorOf_121 : decode cX1_sectorOf 121 = .ok (.ifCond .le 17, 3) := by decide +kernel
theorem dX1_sectorOf_124 : decode cX1_sectorOf 124 = .ok (.iconst 4, 1) := by decide +kernel
theorem dX1_sectorOf_125 : decode cX1_sectorOf 125 = .ok (.iload 8, 2) := by decide +kernel
theorem dX1_sectorOf_127 : decode cX1_sectorOf 127 = .ok (.invokestatic 108, 3) := by decide +kernel
theorem dX1_sectorOf_130 : decode cX1_sectorOf 130 = .ok (.imul, 1) := by decide +kernel
theorem dX1_sectorOf_131 : decode cX1_sectorOf 131 = .ok (.iload 7, 2) := by decide +kernel
theorem dX1_sectorOf_133 : decode cX1_sectorOf 133 = .ok (.if_icmp .gt 5, 3) := by decide +kernel
theorem dX1_sectorOf_136 : decode cX1_sectorOf 136 = .ok (.iconst 0, 1) := by decide +kernel
theorem dX1_sectorOf_137 : decode cX1_sectorOf 137 = .ok (.ireturn, 1) := by decide +kernel
theorem dX1_sectorOf_138 : decode cX1_sectorOf 138 = .ok (.iload 7, 2) := by decide +kernel
theorem dX1_sectorOf_140 : decode cX1_sectorOf 140 = .ok (.ifCond .ge 18, 3) := by decide +kernel
theorem dX1_sectorOf_143 : decode cX1_sectorOf 143 = .ok (.iload 8, 2) := by decide +kernel
theorem dX1_sectorOf_145 : decode cX1_sectorOf 145 = .ok (.invokestatic 108, 3) := by decide +kernel
theorem dX1_sectorOf_148 : decode cX1_sectorOf 148 = .ok (.bipush (-2), 2) := by decide +kernel
theorem dX1_sectorOf_150 : decode cX1_sectorOf 150 = .ok (.iload 7, 2) := by decide +kernel
theorem dX1_sectorOf_152 : decode cX1_sectorOf 152 = .ok (.imul, 1) := by decide +kernel
theorem dX1_sectorOf_153 : decode cX1_sectorOf 153 = .ok (.if_icmp .gt 5, 3) := by decide +kernel
theorem dX1_sectorOf_156 : decode cX1_sectorOf 156 = .ok (.iconst 3, 1) := by decide +kernel
theorem dX1_sectorOf_157 : decode cX1_sectorOf 157 = .ok (.ireturn, 1) := by decide +kernel
theorem dX1_sectorOf_158 : decode cX1_sectorOf 158 = .ok (.iload 8, 2) := by decide +kernel
theorem dX1_sectorOf_160 : decode cX1_sectorOf 160 = .ok (.ifCond .ge 7, 3) := by decide +kernel
theorem dX1_sectorOf_163 : decode cX1_sectorOf 163 = .ok (.iconst 1, 1) := by decide +kernel
theorem dX1_sectorOf_164 : decode cX1_sectorOf 164 = .ok (.goto 4, 3) := by decide +kernel
theorem dX1_sectorOf_167 : decode cX1_sectorOf 167 = .ok (.iconst 2, 1) := by decide +kernel
theorem dX1_sectorOf_168 : decode cX1_sectorOf 168 = .ok (.ireturn, 1) := by decide +kernel
set_option maxRecDepth 20000 in
theorem ggX1_tableOf_X1_haveRisk : GoodIn wsX1_tableOf wsX1_haveRisk := goodIn_r _ [5, 6, 7, 8, 9, 10, 4, 11, 12, 13, 14, 15, 16, 17, 18, 19, 20, 21, 22, 23, 24, 25, 26, 35, 36, 37, 38, 39, 40, 41] (by decide +kernel) (by decide +kernel)
set_option maxRecDepth 20000 in
theorem gX1_tableOf_X1_haveRisk : GoodIn wsX1_tableOf (wsV RX1 113 RX1 yX1_haveRisk wsX1_haveRisk) := goodIn_app (goodIn_of _ (by decide +kernel)) ggX1_tableOf_X1_haveRisk
set_option maxRecDepth 20000 in
theorem ggX1_tableOf_X1_sectorOf : GoodIn wsX1_tableOf wsX1_sectorOf := goodIn_r _ [30, 12, 6, 13, 31, 32, 33, 34, 35, 36, 37] (by decide +kernel) (by decide +kernel)
set_option maxRecDepth 20000 in
theorem gX1_tableOf_X1_sectorOf : GoodIn wsX1_tableOf (wsV RX1 116 RX1 yX1_sectorOf wsX1_sectorOf) := goodIn_app (goodIn_of _ (by decide +kernel)) ggX1_tableOf_X1_sectorOf
theorem dX1_tableOf_0 : decode cX1_tableOf 0 = .ok (.aload_n 0, 1) := by decide +kernel
theorem dX1_tableOf_1 : decode cX1_tableOf 1 = .ok (.iload_n 1, 1) := by decide +kernel
theorem dX1_tableOf_2 : decode cX1_tableOf 2 = .ok (.iload_n 2, 1) := by decide +kernel
theorem dX1_tableOf_3 : decode cX1_tableOf 3 = .ok (.invokevirtual 113, 3) := by decide +kernel
theorem dX1_tableOf_6 : decode cX1_tableOf 6 = .ok (.ifCond .ne 5, 3) := by decide +kernel
theorem dX1_tableOf_9 : decode cX1_tableOf 9 = .ok (.iconst 0, 1) := by decide +kernel
theorem dX1_tableOf_10 : decode cX1_tableOf 10 = .ok (.ireturn, 1) := by decide +kernel
theorem dX1_tableOf_11 : decode cX1_tableOf 11 = .ok (.aload_n 0, 1) := by decide +kernel
theorem dX1_tableOf_12 : decode cX1_tableOf 12 = .ok (.iload_n 1, 1) := by decide +kernel
theorem dX1_tableOf_13 : decode cX1_tableOf 13 = .ok (.iload_n 2, 1) := by decide +kernel
theorem dX1_tableOf_14 : decode cX1_tableOf 14 = .ok (.invokevirtual 116, 3) := by decide +kernel
theorem dX1_tableOf_17 : decode cX1_tableOf 17 = .ok (.istore_n 3, 1) := by decide +kernel
theorem dX1_tableOf_18 : decode cX1_tableOf 18 = .ok (.aload_n 0, 1) := by decide +kernel
theorem dX1_tableOf_19 : decode cX1_tableOf 19 = .ok (.iload_n 2, 1) := by decide +kernel
theorem dX1_tableOf_20 : decode cX1_tableOf 20 = .ok (.iload_n 1, 1) := by decide +kernel
theorem dX1_tableOf_21 : decode cX1_tableOf 21 = .ok (.invokevirtual 116, 3) := by decide +kernel
theorem dX1_tableOf_24 : decode cX1_tableOf 24 = .ok (.istore 4, 2) := by decide +kernel
theorem dX1_tableOf_26 : decode cX1_tableOf 26 = .ok (.iload 4, 2) := by decide +kernel
theorem dX1_tableOf_28 : decode cX1_tableOf 28 = .ok (.iconst 3, 1) := by decide +kernel
theorem dX1_tableOf_29 : decode cX1_tableOf 29 = .ok (.if_icmp .ne 5, 3) := by decide +kernel
theorem dX1_tableOf_32 : decode cX1_tableOf 32 = .ok (.iconst 1, 1) := by decide +kernel
theorem dX1_tableOf_33 : decode cX1_tableOf 33 = .ok (.ireturn, 1) := by decide +kernel
theorem dX1_tableOf_34 : decode cX1_tableOf 34 = .ok (.iload_n 3, 1) := by decide +kernel
theorem dX1_tableOf_35 : decode cX1_tableOf 35 = .ok (.iconst 3, 1) := by decide +kernel
theorem dX1_tableOf_36 : decode cX1_tableOf 36 = .ok (.if_icmp .ne 5, 3) := by decide +kernel
theorem dX1_tableOf_39 : decode cX1_tableOf 39 = .ok (.iconst 2, 1) := by decide +kernel
theorem dX1_tableOf_40 : decode cX1_tableOf 40 = .ok (.ireturn, 1) := by decide +kernel
theorem dX1_tableOf_41 : decode cX1_tableOf 41 = .ok (.iload_n 3, 1) := by decide +kernel
theorem dX1_tableOf_42 : decode cX1_tableOf 42 = .ok (.iconst 1, 1) := by decide +kernel
theorem dX1_tableOf_43 : decode cX1_tableOf 43 = .ok (.if_icmp .ne 5, 3) := by decide +kernel
theorem dX1_tableOf_46 : decode cX1_tableOf 46 = .ok (.iconst 1, 1) := by decide +kernel
theorem dX1_tableOf_47 : decode cX1_tableOf 47 = .ok (.ireturn, 1) := by decide +kernel
theorem dX1_tableOf_48 : decode cX1_tableOf 48 = .ok (.iload_n 3, 1) := by decide +kernel
theorem dX1_tableOf_49 : decode cX1_tableOf 49 = .ok (.iconst 2, 1) := by decide +kernel
theorem dX1_tableOf_50 : decode cX1_tableOf 50 = .ok (.if_icmp .ne 5, 3) := by decide +kernel
theorem dX1_tableOf_53 : decode cX1_tableOf 53 = .ok (.iconst 2, 1) := by decide +kernel
theorem dX1_tableOf_54 : decode cX1_tableOf 54 = .ok (.ireturn, 1) := by decide +kernel
theorem dX1_tableOf_55 : decode cX1_tableOf 55 = .ok (.iload 4, 2) := by decide +kernel
theorem dX1_tableOf_57 : decode cX1_tableOf 57 = .ok (.iconst 1, 1) := by decide +kernel
theorem dX1_tableOf_58 : decode cX1_tableOf 58 = .ok (.if_icmp .ne 7, 3) := by decide +kernel
theorem dX1_tableOf_61 : decode cX1_tableOf 61 = .ok (.iconst 2, 1) := by decide +kernel
theorem dX1_tableOf_62 : decode cX1_tableOf 62 = .ok (.goto 4, 3) := by decide +kernel
theorem dX1_tableOf_65 : decode cX1_tableOf 65 = .ok (.iconst 1, 1) := by decide +kernel
theorem dX1_tableOf_66 : decode cX1_tableOf 66 = .ok (.ireturn, 1) := by decide +kernel
set_option maxRecDepth 20000 in
theorem ggX1_worstOther_X1_haveRisk : GoodIn wsX1_worstOther wsX1_haveRisk := goodIn_r _ [8, 1, 2, 9, 10, 11, 7, 12, 13, 14, 15, 16, 17, 18, 19, 20, 21, 22, 23, 24, 25, 26, 27, 36, 37, 38, 39, 40, 41, 42] (by decide +kernel) (by decide +kernel)
set_option maxRecDepth 20000 in
theorem gX1_worstOther_X1_haveRisk : GoodIn wsX1_worstOther (wsV RX1 113 RX1 yX1_haveRisk wsX1_haveRisk) := goodIn_app (goodIn_of _ (by decide +kernel)) ggX1_worstOther_X1_haveRisk
set_option maxRecDepth 20000 in
theorem ggX1_worstOther_X0_isWorse : GoodIn wsX1_worstOther wsX0_isWorse := goodIn_r _ [31, 26, 27, 24, 25, 39, 40, 41, 42] (by decide +kernel) (by decide +kernel)
set_option maxRecDepth 20000 in
theorem gX1_worstOther_X0_isWorse : GoodIn wsX1_worstOther (wsV RX1 119 RX0 yX0_isWorse wsX0_isWorse) := goodIn_app (goodIn_of _ (by decide +kernel)) ggX1_worstOther_X0_isWorse
set_option maxRecDepth 20000 in
theorem ggX1_worstOther_X0_take : GoodIn wsX1_worstOther wsX0_take := goodIn_r _ [35, 26, 27, 24, 25, 39, 40, 41, 42] (by decide +kernel) (by decide +kernel)
set_option maxRecDepth 20000 in
theorem gX1_worstOther_X0_take : GoodIn wsX1_worstOther (wsV RX1 123 RX0 yX0_take wsX0_take) := goodIn_app (goodIn_of _ (by decide +kernel)) ggX1_worstOther_X0_take
theorem dX1_worstOther_0 : decode cX1_worstOther 0 = .ok (.sipush (-10001), 3) := by decide +kernel
theorem dX1_worstOther_3 : decode cX1_worstOther 3 = .ok (.istore_n 1, 1) := by decide +kernel
theorem dX1_worstOther_4 : decode cX1_worstOther 4 = .ok (.iconst 1, 1) := by decide +kernel
theorem dX1_worstOther_5 : decode cX1_worstOther 5 = .ok (.istore_n 2, 1) := by decide +kernel
theorem dX1_worstOther_6 : decode cX1_worstOther 6 = .ok (.iload_n 2, 1) := by decide +kernel
theorem dX1_worstOther_7 : decode cX1_worstOther 7 = .ok (.aload_n 0, 1) := by decide +kernel
theorem dX1_worstOther_8 : decode cX1_worstOther 8 = .ok (.getfield 11, 3) := by decide +kernel
theorem dX1_worstOther_11 : decode cX1_worstOther 11 = .ok (.bipush 35, 2) := by decide +kernel
theorem dX1_worstOther_13 : decode cX1_worstOther 13 = .ok (.iaload, 1) := by decide +kernel
theorem dX1_worstOther_14 : decode cX1_worstOther 14 = .ok (.if_icmp .gt 52, 3) := by decide +kernel
theorem dX1_worstOther_17 : decode cX1_worstOther 17 = .ok (.aload_n 0, 1) := by decide +kernel
theorem dX1_worstOther_18 : decode cX1_worstOther 18 = .ok (.iconst 0, 1) := by decide +kernel
theorem dX1_worstOther_19 : decode cX1_worstOther 19 = .ok (.iload_n 2, 1) := by decide +kernel
theorem dX1_worstOther_20 : decode cX1_worstOther 20 = .ok (.invokevirtual 113, 3) := by decide +kernel
theorem dX1_worstOther_23 : decode cX1_worstOther 23 = .ok (.ifCond .eq 37, 3) := by decide +kernel
theorem dX1_worstOther_26 : decode cX1_worstOther 26 = .ok (.iload_n 1, 1) := by decide +kernel
theorem dX1_worstOther_27 : decode cX1_worstOther 27 = .ok (.sipush (-10001), 3) := by decide +kernel
theorem dX1_worstOther_30 : decode cX1_worstOther 30 = .ok (.if_icmp .eq 17, 3) := by decide +kernel
theorem dX1_worstOther_33 : decode cX1_worstOther 33 = .ok (.aload_n 0, 1) := by decide +kernel
theorem dX1_worstOther_34 : decode cX1_worstOther 34 = .ok (.getfield 18, 3) := by decide +kernel
theorem dX1_worstOther_37 : decode cX1_worstOther 37 = .ok (.aload_n 0, 1) := by decide +kernel
theorem dX1_worstOther_38 : decode cX1_worstOther 38 = .ok (.getfield 22, 3) := by decide +kernel
theorem dX1_worstOther_41 : decode cX1_worstOther 41 = .ok (.invokevirtual 119, 3) := by decide +kernel
theorem dX1_worstOther_44 : decode cX1_worstOther 44 = .ok (.ifCond .eq 16, 3) := by decide +kernel
theorem dX1_worstOther_47 : decode cX1_worstOther 47 = .ok (.iload_n 2, 1) := by decide +kernel
theorem dX1_worstOther_48 : decode cX1_worstOther 48 = .ok (.istore_n 1, 1) := by decide +kernel
theorem dX1_worstOther_49 : decode cX1_worstOther 49 = .ok (.aload_n 0, 1) := by decide +kernel
theorem dX1_worstOther_50 : decode cX1_worstOther 50 = .ok (.getfield 22, 3) := by decide +kernel
theorem dX1_worstOther_53 : decode cX1_worstOther 53 = .ok (.aload_n 0, 1) := by decide +kernel
end
section
theorem dX1_worstOther_54 : decode cX1_worstOther 54 = .ok (.getfield 18, 3) := by decide +kernel
theorem dX1_worstOther_57 : decode cX1_worstOther 57 = .ok (.invokevirtual 123, 3) := by decide +kernel
theorem dX1_worstOther_60 : decode cX1_worstOther 60 = .ok (.iinc 2 1, 3) := by decide +kernel
theorem dX1_worstOther_63 : decode cX1_worstOther 63 = .ok (.goto (-57), 3) := by decide +kernel
theorem dX1_worstOther_66 : decode cX1_worstOther 66 = .ok (.iload_n 1, 1) := by decide +kernel
theorem dX1_worstOther_67 : decode cX1_worstOther 67 = .ok (.ireturn, 1) := by decide +kernel
set_option maxRecDepth 20000 in
theorem ggX1_isClear_X1_wouldRisk : GoodIn wsX1_isClear wsX1_wouldRisk := goodIn_r _ [6, 7, 1, 8, 9, 10, 5, 11, 12, 13, 14, 15, 16, 17, 18, 19, 20, 21, 22, 23, 24, 25, 26, 27, 28, 29, 30, 31, 32, 33] (by decide +kernel) (by decide +kernel)
set_option maxRecDepth 20000 in
theorem gX1_isClear_X1_wouldRisk : GoodIn wsX1_isClear (wsV RX1 127 RX1 yX1_wouldRisk wsX1_wouldRisk) := goodIn_app (goodIn_of _ (by decide +kernel)) ggX1_isClear_X1_wouldRisk
theorem dX1_isClear_0 : decode cX1_isClear 0 = .ok (.iconst 0, 1) := by decide +kernel
theorem dX1_isClear_1 : decode cX1_isClear 1 = .ok (.istore 4, 2) := by decide +kernel
theorem dX1_isClear_3 : decode cX1_isClear 3 = .ok (.iload 4, 2) := by decide +kernel
theorem dX1_isClear_5 : decode cX1_isClear 5 = .ok (.aload_n 0, 1) := by decide +kernel
theorem dX1_isClear_6 : decode cX1_isClear 6 = .ok (.getfield 11, 3) := by decide +kernel
theorem dX1_isClear_9 : decode cX1_isClear 9 = .ok (.bipush 35, 2) := by decide +kernel
theorem dX1_isClear_11 : decode cX1_isClear 11 = .ok (.iaload, 1) := by decide +kernel
theorem dX1_isClear_12 : decode cX1_isClear 12 = .ok (.if_icmp .gt 29, 3) := by decide +kernel
theorem dX1_isClear_15 : decode cX1_isClear 15 = .ok (.iload 4, 2) := by decide +kernel
theorem dX1_isClear_17 : decode cX1_isClear 17 = .ok (.iload_n 1, 1) := by decide +kernel
theorem dX1_isClear_18 : decode cX1_isClear 18 = .ok (.if_icmp .eq 17, 3) := by decide +kernel
theorem dX1_isClear_21 : decode cX1_isClear 21 = .ok (.aload_n 0, 1) := by decide +kernel
theorem dX1_isClear_22 : decode cX1_isClear 22 = .ok (.iload_n 1, 1) := by decide +kernel
theorem dX1_isClear_23 : decode cX1_isClear 23 = .ok (.iload_n 2, 1) := by decide +kernel
theorem dX1_isClear_24 : decode cX1_isClear 24 = .ok (.iload_n 3, 1) := by decide +kernel
theorem dX1_isClear_25 : decode cX1_isClear 25 = .ok (.iload 4, 2) := by decide +kernel
theorem dX1_isClear_27 : decode cX1_isClear 27 = .ok (.invokevirtual 127, 3) := by decide +kernel
theorem dX1_isClear_30 : decode cX1_isClear 30 = .ok (.ifCond .eq 5, 3) := by decide +kernel
theorem dX1_isClear_33 : decode cX1_isClear 33 = .ok (.iconst 0, 1) := by decide +kernel
theorem dX1_isClear_34 : decode cX1_isClear 34 = .ok (.ireturn, 1) := by decide +kernel
theorem dX1_isClear_35 : decode cX1_isClear 35 = .ok (.iinc 4 1, 3) := by decide +kernel
theorem dX1_isClear_38 : decode cX1_isClear 38 = .ok (.goto (-35), 3) := by decide +kernel
theorem dX1_isClear_41 : decode cX1_isClear 41 = .ok (.iconst 1, 1) := by decide +kernel
theorem dX1_isClear_42 : decode cX1_isClear 42 = .ok (.ireturn, 1) := by decide +kernel
set_option maxRecDepth 20000 in
theorem ggX1_blockedBy_X1_wouldRisk : GoodIn wsX1_blockedBy wsX1_wouldRisk := goodIn_r _ [6, 7, 1, 8, 9, 10, 5, 11, 12, 13, 14, 15, 16, 17, 18, 19, 20, 21, 22, 23, 24, 25, 26, 27, 28, 29, 30, 31, 32, 33] (by decide +kernel) (by decide +kernel)
set_option maxRecDepth 20000 in
theorem gX1_blockedBy_X1_wouldRisk : GoodIn wsX1_blockedBy (wsV RX1 127 RX1 yX1_wouldRisk wsX1_wouldRisk) := goodIn_app (goodIn_of _ (by decide +kernel)) ggX1_blockedBy_X1_wouldRisk
theorem dX1_blockedBy_0 : decode cX1_blockedBy 0 = .ok (.iconst 0, 1) := by decide +kernel
theorem dX1_blockedBy_1 : decode cX1_blockedBy 1 = .ok (.istore_n 2, 1) := by decide +kernel
theorem dX1_blockedBy_2 : decode cX1_blockedBy 2 = .ok (.iconst 0, 1) := by decide +kernel
theorem dX1_blockedBy_3 : decode cX1_blockedBy 3 = .ok (.istore_n 3, 1) := by decide +kernel
theorem dX1_blockedBy_4 : decode cX1_blockedBy 4 = .ok (.iload_n 3, 1) := by decide +kernel
theorem dX1_blockedBy_5 : decode cX1_blockedBy 5 = .ok (.bipush 16, 2) := by decide +kernel
theorem dX1_blockedBy_7 : decode cX1_blockedBy 7 = .ok (.if_icmp .ge 31, 3) := by decide +kernel
theorem dX1_blockedBy_10 : decode cX1_blockedBy 10 = .ok (.aload_n 0, 1) := by decide +kernel
theorem dX1_blockedBy_11 : decode cX1_blockedBy 11 = .ok (.iconst 0, 1) := by decide +kernel
theorem dX1_blockedBy_12 : decode cX1_blockedBy 12 = .ok (.iload_n 3, 1) := by decide +kernel
theorem dX1_blockedBy_13 : decode cX1_blockedBy 13 = .ok (.aload_n 0, 1) := by decide +kernel
theorem dX1_blockedBy_14 : decode cX1_blockedBy 14 = .ok (.getfield 11, 3) := by decide +kernel
theorem dX1_blockedBy_17 : decode cX1_blockedBy 17 = .ok (.iconst 3, 1) := by decide +kernel
theorem dX1_blockedBy_18 : decode cX1_blockedBy 18 = .ok (.iaload, 1) := by decide +kernel
theorem dX1_blockedBy_19 : decode cX1_blockedBy 19 = .ok (.iload_n 1, 1) := by decide +kernel
theorem dX1_blockedBy_20 : decode cX1_blockedBy 20 = .ok (.invokevirtual 127, 3) := by decide +kernel
theorem dX1_blockedBy_23 : decode cX1_blockedBy 23 = .ok (.ifCond .eq 9, 3) := by decide +kernel
theorem dX1_blockedBy_26 : decode cX1_blockedBy 26 = .ok (.iload_n 2, 1) := by decide +kernel
theorem dX1_blockedBy_27 : decode cX1_blockedBy 27 = .ok (.iconst 1, 1) := by decide +kernel
theorem dX1_blockedBy_28 : decode cX1_blockedBy 28 = .ok (.iload_n 3, 1) := by decide +kernel
theorem dX1_blockedBy_29 : decode cX1_blockedBy 29 = .ok (.ishl, 1) := by decide +kernel
theorem dX1_blockedBy_30 : decode cX1_blockedBy 30 = .ok (.ior, 1) := by decide +kernel
theorem dX1_blockedBy_31 : decode cX1_blockedBy 31 = .ok (.istore_n 2, 1) := by decide +kernel
theorem dX1_blockedBy_32 : decode cX1_blockedBy 32 = .ok (.iinc 3 1, 3) := by decide +kernel
theorem dX1_blockedBy_35 : decode cX1_blockedBy 35 = .ok (.goto (-31), 3) := by decide +kernel
theorem dX1_blockedBy_38 : decode cX1_blockedBy 38 = .ok (.iload_n 2, 1) := by decide +kernel
theorem dX1_blockedBy_39 : decode cX1_blockedBy 39 = .ok (.ireturn, 1) := by decide +kernel
set_option maxRecDepth 20000 in
theorem ggX1_adviceFor_X1_mustGiveWay : GoodIn wsX1_adviceFor wsX1_mustGiveWay := goodIn_r _ [6, 1, 7, 8, 9, 5, 10, 11, 12, 13, 14, 15, 16, 17, 18, 19, 20, 21, 22, 23, 24, 25, 26, 27, 28, 29, 30, 31, 32, 33, 34, 35, 36, 37, 38, 39, 40, 41, 42, 43, 44, 45, 46, 59, 60, 61, 62, 63, 64, 65] (by decide +kernel) (by decide +kernel)
set_option maxRecDepth 20000 in
theorem gX1_adviceFor_X1_mustGiveWay : GoodIn wsX1_adviceFor (wsV RX1 131 RX1 yX1_mustGiveWay wsX1_mustGiveWay) := goodIn_app (goodIn_of _ (by decide +kernel)) ggX1_adviceFor_X1_mustGiveWay
set_option maxRecDepth 20000 in
theorem ggX1_adviceFor_X1_turnFor : GoodIn wsX1_adviceFor wsX1_turnFor := goodIn_r _ [50, 1, 51, 52, 53, 5, 54, 55, 56, 57, 58, 19, 20, 21, 22, 23, 24, 25, 26, 27, 28, 29, 30, 31, 32, 33, 34, 35, 36, 37, 38, 59, 60, 61, 62, 63, 64, 65] (by decide +kernel) (by decide +kernel)
set_option maxRecDepth 20000 in
theorem gX1_adviceFor_X1_turnFor : GoodIn wsX1_adviceFor (wsV RX1 134 RX1 yX1_turnFor wsX1_turnFor) := goodIn_app (goodIn_of _ (by decide +kernel)) ggX1_adviceFor_X1_turnFor
theorem dX1_adviceFor_0 : decode cX1_adviceFor 0 = .ok (.aload_n 0, 1) := by decide +kernel
theorem dX1_adviceFor_1 : decode cX1_adviceFor 1 = .ok (.iload_n 1, 1) := by decide +kernel
theorem dX1_adviceFor_2 : decode cX1_adviceFor 2 = .ok (.invokevirtual 131, 3) := by decide +kernel
theorem dX1_adviceFor_5 : decode cX1_adviceFor 5 = .ok (.ifCond .eq 11, 3) := by decide +kernel
theorem dX1_adviceFor_8 : decode cX1_adviceFor 8 = .ok (.aload_n 0, 1) := by decide +kernel
theorem dX1_adviceFor_9 : decode cX1_adviceFor 9 = .ok (.iload_n 1, 1) := by decide +kernel
theorem dX1_adviceFor_10 : decode cX1_adviceFor 10 = .ok (.invokevirtual 134, 3) := by decide +kernel
theorem dX1_adviceFor_13 : decode cX1_adviceFor 13 = .ok (.goto 13, 3) := by decide +kernel
theorem dX1_adviceFor_16 : decode cX1_adviceFor 16 = .ok (.aload_n 0, 1) := by decide +kernel
theorem dX1_adviceFor_17 : decode cX1_adviceFor 17 = .ok (.getfield 11, 3) := by decide +kernel
theorem dX1_adviceFor_20 : decode cX1_adviceFor 20 = .ok (.iconst 5, 1) := by decide +kernel
theorem dX1_adviceFor_21 : decode cX1_adviceFor 21 = .ok (.iload_n 1, 1) := by decide +kernel
theorem dX1_adviceFor_22 : decode cX1_adviceFor 22 = .ok (.imul, 1) := by decide +kernel
theorem dX1_adviceFor_23 : decode cX1_adviceFor 23 = .ok (.iconst 2, 1) := by decide +kernel
theorem dX1_adviceFor_24 : decode cX1_adviceFor 24 = .ok (.iadd, 1) := by decide +kernel
theorem dX1_adviceFor_25 : decode cX1_adviceFor 25 = .ok (.iaload, 1) := by decide +kernel
theorem dX1_adviceFor_26 : decode cX1_adviceFor 26 = .ok (.ireturn, 1) := by decide +kernel
set_option maxRecDepth 20000 in
theorem ggX1_mustGiveWay_X1_givenWay : GoodIn wsX1_mustGiveWay wsX1_givenWay := goodIn_r _ [6, 1, 43, 44, 45] (by decide +kernel) (by decide +kernel)
set_option maxRecDepth 20000 in
theorem gX1_mustGiveWay_X1_givenWay : GoodIn wsX1_mustGiveWay (wsV RX1 71 RX1 yX1_givenWay wsX1_givenWay) := goodIn_app (goodIn_of _ (by decide +kernel)) ggX1_mustGiveWay_X1_givenWay
set_option maxRecDepth 20000 in
theorem ggX1_mustGiveWay_X1_tableOf : GoodIn wsX1_mustGiveWay wsX1_tableOf := goodIn_r _ [10, 11, 12, 13, 5, 14, 1, 15, 16, 17, 18, 19, 20, 21, 22, 23, 24, 25, 26, 27, 28, 29, 30, 31, 32, 33, 34, 35, 36, 37, 38, 39, 40, 41, 42, 43, 44, 45, 46, 47, 48, 49] (by decide +kernel) (by decide +kernel)
set_option maxRecDepth 20000 in
theorem gX1_mustGiveWay_X1_tableOf : GoodIn wsX1_mustGiveWay (wsV RX1 75 RX1 yX1_tableOf wsX1_tableOf) := goodIn_app (goodIn_of _ (by decide +kernel)) ggX1_mustGiveWay_X1_tableOf
theorem dX1_mustGiveWay_0 : decode cX1_mustGiveWay 0 = .ok (.iload_n 1, 1) := by decide +kernel
theorem dX1_mustGiveWay_1 : decode cX1_mustGiveWay 1 = .ok (.ifCond .ne 16, 3) := by decide +kernel
theorem dX1_mustGiveWay_4 : decode cX1_mustGiveWay 4 = .ok (.aload_n 0, 1) := by decide +kernel
theorem dX1_mustGiveWay_5 : decode cX1_mustGiveWay 5 = .ok (.invokevirtual 71, 3) := by decide +kernel
theorem dX1_mustGiveWay_8 : decode cX1_mustGiveWay 8 = .ok (.ifCond .eq 7, 3) := by decide +kernel
theorem dX1_mustGiveWay_11 : decode cX1_mustGiveWay 11 = .ok (.iconst 1, 1) := by decide +kernel
theorem dX1_mustGiveWay_12 : decode cX1_mustGiveWay 12 = .ok (.goto 4, 3) := by decide +kernel
theorem dX1_mustGiveWay_15 : decode cX1_mustGiveWay 15 = .ok (.iconst 0, 1) := by decide +kernel
theorem dX1_mustGiveWay_16 : decode cX1_mustGiveWay 16 = .ok (.ireturn, 1) := by decide +kernel
theorem dX1_mustGiveWay_17 : decode cX1_mustGiveWay 17 = .ok (.iconst 0, 1) := by decide +kernel
theorem dX1_mustGiveWay_18 : decode cX1_mustGiveWay 18 = .ok (.istore_n 2, 1) := by decide +kernel
theorem dX1_mustGiveWay_19 : decode cX1_mustGiveWay 19 = .ok (.iload_n 2, 1) := by decide +kernel
theorem dX1_mustGiveWay_20 : decode cX1_mustGiveWay 20 = .ok (.aload_n 0, 1) := by decide +kernel
theorem dX1_mustGiveWay_21 : decode cX1_mustGiveWay 21 = .ok (.getfield 11, 3) := by decide +kernel
theorem dX1_mustGiveWay_24 : decode cX1_mustGiveWay 24 = .ok (.bipush 35, 2) := by decide +kernel
theorem dX1_mustGiveWay_26 : decode cX1_mustGiveWay 26 = .ok (.iaload, 1) := by decide +kernel
theorem dX1_mustGiveWay_27 : decode cX1_mustGiveWay 27 = .ok (.if_icmp .gt 26, 3) := by decide +kernel
theorem dX1_mustGiveWay_30 : decode cX1_mustGiveWay 30 = .ok (.iload_n 2, 1) := by decide +kernel
theorem dX1_mustGiveWay_31 : decode cX1_mustGiveWay 31 = .ok (.iload_n 1, 1) := by decide +kernel
theorem dX1_mustGiveWay_32 : decode cX1_mustGiveWay 32 = .ok (.if_icmp .eq 15, 3) := by decide +kernel
theorem dX1_mustGiveWay_35 : decode cX1_mustGiveWay 35 = .ok (.aload_n 0, 1) := by decide +kernel
theorem dX1_mustGiveWay_36 : decode cX1_mustGiveWay 36 = .ok (.iload_n 1, 1) := by decide +kernel
theorem dX1_mustGiveWay_37 : decode cX1_mustGiveWay 37 = .ok (.iload_n 2, 1) := by decide +kernel
theorem dX1_mustGiveWay_38 : decode cX1_mustGiveWay 38 = .ok (.invokevirtual 75, 3) := by decide +kernel
theorem dX1_mustGiveWay_41 : decode cX1_mustGiveWay 41 = .ok (.iconst 1, 1) := by decide +kernel
theorem dX1_mustGiveWay_42 : decode cX1_mustGiveWay 42 = .ok (.if_icmp .ne 5, 3) := by decide +kernel
theorem dX1_mustGiveWay_45 : decode cX1_mustGiveWay 45 = .ok (.iconst 1, 1) := by decide +kernel
theorem dX1_mustGiveWay_46 : decode cX1_mustGiveWay 46 = .ok (.ireturn, 1) := by decide +kernel
theorem dX1_mustGiveWay_47 : decode cX1_mustGiveWay 47 = .ok (.iinc 2 1, 3) := by decide +kernel
theorem dX1_mustGiveWay_50 : decode cX1_mustGiveWay 50 = .ok (.goto (-31), 3) := by decide +kernel
theorem dX1_mustGiveWay_53 : decode cX1_mustGiveWay 53 = .ok (.iconst 0, 1) := by decide +kernel
theorem dX1_mustGiveWay_54 : decode cX1_mustGiveWay 54 = .ok (.ireturn, 1) := by decide +kernel
set_option maxRecDepth 20000 in
theorem ggX1_turnFor_X1_isClear : GoodIn wsX1_turnFor wsX1_isClear := goodIn_r _ [6, 1, 7, 8, 9, 5, 10, 11, 12, 13, 14, 15, 16, 17, 18, 19, 20, 21, 22, 23, 24, 25, 26, 27, 28, 29, 30, 31, 32, 33, 34, 35, 36, 37] (by decide +kernel) (by decide +kernel)
set_option maxRecDepth 20000 in
theorem gX1_turnFor_X1_isClear : GoodIn wsX1_turnFor (wsV RX1 137 RX1 yX1_isClear wsX1_isClear) := goodIn_app (goodIn_of _ (by decide +kernel)) ggX1_turnFor_X1_isClear
theorem dX1_turnFor_0 : decode cX1_turnFor 0 = .ok (.aload_n 0, 1) := by decide +kernel
theorem dX1_turnFor_1 : decode cX1_turnFor 1 = .ok (.getfield 11, 3) := by decide +kernel
theorem dX1_turnFor_4 : decode cX1_turnFor 4 = .ok (.iconst 5, 1) := by decide +kernel
theorem dX1_turnFor_5 : decode cX1_turnFor 5 = .ok (.iload_n 1, 1) := by decide +kernel
theorem dX1_turnFor_6 : decode cX1_turnFor 6 = .ok (.imul, 1) := by decide +kernel
theorem dX1_turnFor_7 : decode cX1_turnFor 7 = .ok (.iconst 2, 1) := by decide +kernel
theorem dX1_turnFor_8 : decode cX1_turnFor 8 = .ok (.iadd, 1) := by decide +kernel
theorem dX1_turnFor_9 : decode cX1_turnFor 9 = .ok (.iaload, 1) := by decide +kernel
theorem dX1_turnFor_10 : decode cX1_turnFor 10 = .ok (.istore_n 2, 1) := by decide +kernel
theorem dX1_turnFor_11 : decode cX1_turnFor 11 = .ok (.aload_n 0, 1) := by decide +kernel
theorem dX1_turnFor_12 : decode cX1_turnFor 12 = .ok (.getfield 11, 3) := by decide +kernel
theorem dX1_turnFor_15 : decode cX1_turnFor 15 = .ok (.iconst 5, 1) := by decide +kernel
theorem dX1_turnFor_16 : decode cX1_turnFor 16 = .ok (.iload_n 1, 1) := by decide +kernel
theorem dX1_turnFor_17 : decode cX1_turnFor 17 = .ok (.imul, 1) := by decide +kernel
theorem dX1_turnFor_18 : decode cX1_turnFor 18 = .ok (.iconst 3, 1) := by decide +kernel
theorem dX1_turnFor_19 : decode cX1_turnFor 19 = .ok (.iadd, 1) := by decide +kernel
theorem dX1_turnFor_20 : decode cX1_turnFor 20 = .ok (.iaload, 1) := by decide +kernel
theorem dX1_turnFor_21 : decode cX1_turnFor 21 = .ok (.istore_n 3, 1) := by decide +kernel
theorem dX1_turnFor_22 : decode cX1_turnFor 22 = .ok (.iconst 1, 1) := by decide +kernel
theorem dX1_turnFor_23 : decode cX1_turnFor 23 = .ok (.istore 4, 2) := by decide +kernel
theorem dX1_turnFor_25 : decode cX1_turnFor 25 = .ok (.iload 4, 2) := by decide +kernel
theorem dX1_turnFor_27 : decode cX1_turnFor 27 = .ok (.bipush 8, 2) := by decide +kernel
theorem dX1_turnFor_29 : decode cX1_turnFor 29 = .ok (.if_icmp .gt 32, 3) := by decide +kernel
theorem dX1_turnFor_32 : decode cX1_turnFor 32 = .ok (.iload_n 2, 1) := by decide +kernel
theorem dX1_turnFor_33 : decode cX1_turnFor 33 = .ok (.iload 4, 2) := by decide +kernel
theorem dX1_turnFor_35 : decode cX1_turnFor 35 = .ok (.iadd, 1) := by decide +kernel
theorem dX1_turnFor_36 : decode cX1_turnFor 36 = .ok (.bipush 15, 2) := by decide +kernel
theorem dX1_turnFor_38 : decode cX1_turnFor 38 = .ok (.iand, 1) := by decide +kernel
theorem dX1_turnFor_39 : decode cX1_turnFor 39 = .ok (.istore 5, 2) := by decide +kernel
theorem dX1_turnFor_41 : decode cX1_turnFor 41 = .ok (.aload_n 0, 1) := by decide +kernel
theorem dX1_turnFor_42 : decode cX1_turnFor 42 = .ok (.iload_n 1, 1) := by decide +kernel
theorem dX1_turnFor_43 : decode cX1_turnFor 43 = .ok (.iload 5, 2) := by decide +kernel
theorem dX1_turnFor_45 : decode cX1_turnFor 45 = .ok (.iload_n 3, 1) := by decide +kernel
theorem dX1_turnFor_46 : decode cX1_turnFor 46 = .ok (.invokevirtual 137, 3) := by decide +kernel
theorem dX1_turnFor_49 : decode cX1_turnFor 49 = .ok (.ifCond .eq 6, 3) := by decide +kernel
theorem dX1_turnFor_52 : decode cX1_turnFor 52 = .ok (.iload 5, 2) := by decide +kernel
theorem dX1_turnFor_54 : decode cX1_turnFor 54 = .ok (.ireturn, 1) := by decide +kernel
theorem dX1_turnFor_55 : decode cX1_turnFor 55 = .ok (.iinc 4 1, 3) := by decide +kernel
theorem dX1_turnFor_58 : decode cX1_turnFor 58 = .ok (.goto (-33), 3) := by decide +kernel
theorem dX1_turnFor_61 : decode cX1_turnFor 61 = .ok (.iconst 1, 1) := by decide +kernel
theorem dX1_turnFor_62 : decode cX1_turnFor 62 = .ok (.istore 4, 2) := by decide +kernel
theorem dX1_turnFor_64 : decode cX1_turnFor 64 = .ok (.iload 4, 2) := by decide +kernel
theorem dX1_turnFor_66 : decode cX1_turnFor 66 = .ok (.bipush 7, 2) := by decide +kernel
theorem dX1_turnFor_68 : decode cX1_turnFor 68 = .ok (.if_icmp .gt 32, 3) := by decide +kernel
theorem dX1_turnFor_71 : decode cX1_turnFor 71 = .ok (.iload_n 2, 1) := by decide +kernel
theorem dX1_turnFor_72 : decode cX1_turnFor 72 = .ok (.iload 4, 2) := by decide +kernel
theorem dX1_turnFor_74 : decode cX1_turnFor 74 = .ok (.isub, 1) := by decide +kernel
theorem dX1_turnFor_75 : decode cX1_turnFor 75 = .ok (.bipush 15, 2) := by decide +kernel
theorem dX1_turnFor_77 : decode cX1_turnFor 77 = .ok (.iand, 1) := by decide +kernel
theorem dX1_turnFor_78 : decode cX1_turnFor 78 = .ok (.istore 5, 2) := by decide +kernel
theorem dX1_turnFor_80 : decode cX1_turnFor 80 = .ok (.aload_n 0, 1) := by decide +kernel
theorem dX1_turnFor_81 : decode cX1_turnFor 81 = .ok (.iload_n 1, 1) := by decide +kernel
theorem dX1_turnFor_82 : decode cX1_turnFor 82 = .ok (.iload 5, 2) := by decide +kernel
theorem dX1_turnFor_84 : decode cX1_turnFor 84 = .ok (.iload_n 3, 1) := by decide +kernel
theorem dX1_turnFor_85 : decode cX1_turnFor 85 = .ok (.invokevirtual 137, 3) := by decide +kernel
theorem dX1_turnFor_88 : decode cX1_turnFor 88 = .ok (.ifCond .eq 6, 3) := by decide +kernel
theorem dX1_turnFor_91 : decode cX1_turnFor 91 = .ok (.iload 5, 2) := by decide +kernel
theorem dX1_turnFor_93 : decode cX1_turnFor 93 = .ok (.ireturn, 1) := by decide +kernel
theorem dX1_turnFor_94 : decode cX1_turnFor 94 = .ok (.iinc 4 1, 3) := by decide +kernel
theorem dX1_turnFor_97 : decode cX1_turnFor 97 = .ok (.goto (-33), 3) := by decide +kernel
theorem dX1_turnFor_100 : decode cX1_turnFor 100 = .ok (.aload_n 0, 1) := by decide +kernel
theorem dX1_turnFor_101 : decode cX1_turnFor 101 = .ok (.iload_n 1, 1) := by decide +kernel
theorem dX1_turnFor_102 : decode cX1_turnFor 102 = .ok (.iload_n 2, 1) := by decide +kernel
theorem dX1_turnFor_103 : decode cX1_turnFor 103 = .ok (.iconst 0, 1) := by decide +kernel
theorem dX1_turnFor_104 : decode cX1_turnFor 104 = .ok (.invokevirtual 137, 3) := by decide +kernel
theorem dX1_turnFor_107 : decode cX1_turnFor 107 = .ok (.ifCond .eq 8, 3) := by decide +kernel
theorem dX1_turnFor_110 : decode cX1_turnFor 110 = .ok (.bipush 16, 2) := by decide +kernel
theorem dX1_turnFor_112 : decode cX1_turnFor 112 = .ok (.goto 5, 3) := by decide +kernel
theorem dX1_turnFor_115 : decode cX1_turnFor 115 = .ok (.bipush 17, 2) := by decide +kernel
theorem dX1_turnFor_117 : decode cX1_turnFor 117 = .ok (.ireturn, 1) := by decide +kernel
set_option maxRecDepth 20000 in
theorem ggX1_foldShip_X1_partOf : GoodIn wsX1_foldShip wsX1_partOf := goodIn_r _ [6, 7, 8, 9, 10, 5, 11, 12, 13, 14, 15, 16, 17, 76, 77, 78] (by decide +kernel) (by decide +kernel)
set_option maxRecDepth 20000 in
theorem gX1_foldShip_X1_partOf : GoodIn wsX1_foldShip (wsV RX1 143 RX1 yX1_partOf wsX1_partOf) := goodIn_app (goodIn_of _ (by decide +kernel)) ggX1_foldShip_X1_partOf
set_option maxRecDepth 20000 in
theorem ggX1_foldShip_X1_adviceFor : GoodIn wsX1_foldShip wsX1_adviceFor := goodIn_r _ [21, 7, 22, 23, 24, 5, 25, 26, 27, 28, 29, 30, 31, 32, 33, 34, 35, 36, 37, 38, 39, 40, 41, 42, 12, 17, 43, 44, 45, 46, 47, 48, 49, 50, 51, 52, 53, 54, 55, 56, 57, 58, 59, 60, 61, 62, 63, 64, 65, 66, 67, 68, 69, 70, 71, 72, 73, 74, 75, 76, 77, 78, 79, 80, 81, 82] (by decide +kernel) (by decide +kernel)
set_option maxRecDepth 20000 in
theorem gX1_foldShip_X1_adviceFor : GoodIn wsX1_foldShip (wsV RX1 146 RX1 yX1_adviceFor wsX1_adviceFor) := goodIn_app (goodIn_of _ (by decide +kernel)) ggX1_foldShip_X1_adviceFor
theorem dX1_foldShip_0 : decode cX1_foldShip 0 = .ok (.iconst 0, 1) := by decide +kernel
theorem dX1_foldShip_1 : decode cX1_foldShip 1 = .ok (.istore 4, 2) := by decide +kernel
theorem dX1_foldShip_3 : decode cX1_foldShip 3 = .ok (.iload 4, 2) := by decide +kernel
theorem dX1_foldShip_5 : decode cX1_foldShip 5 = .ok (.iconst 3, 1) := by decide +kernel
theorem dX1_foldShip_6 : decode cX1_foldShip 6 = .ok (.if_icmp .gt 24, 3) := by decide +kernel
theorem dX1_foldShip_9 : decode cX1_foldShip 9 = .ok (.ldc2_w 141, 3) := by decide +kernel
theorem dX1_foldShip_12 : decode cX1_foldShip 12 = .ok (.lload_n 1, 1) := by decide +kernel
theorem dX1_foldShip_13 : decode cX1_foldShip 13 = .ok (.lmul, 1) := by decide +kernel
theorem dX1_foldShip_14 : decode cX1_foldShip 14 = .ok (.aload_n 0, 1) := by decide +kernel
theorem dX1_foldShip_15 : decode cX1_foldShip 15 = .ok (.iload_n 3, 1) := by decide +kernel
theorem dX1_foldShip_16 : decode cX1_foldShip 16 = .ok (.iload 4, 2) := by decide +kernel
theorem dX1_foldShip_18 : decode cX1_foldShip 18 = .ok (.invokevirtual 143, 3) := by decide +kernel
theorem dX1_foldShip_21 : decode cX1_foldShip 21 = .ok (.i2l, 1) := by decide +kernel
theorem dX1_foldShip_22 : decode cX1_foldShip 22 = .ok (.ladd, 1) := by decide +kernel
theorem dX1_foldShip_23 : decode cX1_foldShip 23 = .ok (.lstore_n 1, 1) := by decide +kernel
theorem dX1_foldShip_24 : decode cX1_foldShip 24 = .ok (.iinc 4 1, 3) := by decide +kernel
theorem dX1_foldShip_27 : decode cX1_foldShip 27 = .ok (.goto (-24), 3) := by decide +kernel
theorem dX1_foldShip_30 : decode cX1_foldShip 30 = .ok (.ldc2_w 141, 3) := by decide +kernel
theorem dX1_foldShip_33 : decode cX1_foldShip 33 = .ok (.lload_n 1, 1) := by decide +kernel
theorem dX1_foldShip_34 : decode cX1_foldShip 34 = .ok (.lmul, 1) := by decide +kernel
theorem dX1_foldShip_35 : decode cX1_foldShip 35 = .ok (.aload_n 0, 1) := by decide +kernel
theorem dX1_foldShip_36 : decode cX1_foldShip 36 = .ok (.iload_n 3, 1) := by decide +kernel
theorem dX1_foldShip_37 : decode cX1_foldShip 37 = .ok (.invokevirtual 146, 3) := by decide +kernel
theorem dX1_foldShip_40 : decode cX1_foldShip 40 = .ok (.i2l, 1) := by decide +kernel
theorem dX1_foldShip_41 : decode cX1_foldShip 41 = .ok (.ladd, 1) := by decide +kernel
theorem dX1_foldShip_42 : decode cX1_foldShip 42 = .ok (.lreturn, 1) := by decide +kernel
set_option maxRecDepth 20000 in
theorem ggX1_foldOther_X1_dutyTo : GoodIn wsX1_foldOther wsX1_dutyTo := goodIn_r _ [6, 7, 58, 59, 60] (by decide +kernel) (by decide +kernel)
set_option maxRecDepth 20000 in
theorem gX1_foldOther_X1_dutyTo : GoodIn wsX1_foldOther (wsV RX1 149 RX1 yX1_dutyTo wsX1_dutyTo) := goodIn_app (goodIn_of _ (by decide +kernel)) ggX1_foldOther_X1_dutyTo
set_option maxRecDepth 20000 in
theorem ggX1_foldOther_X1_approachOf : GoodIn wsX1_foldOther wsX1_approachOf := goodIn_r _ [11, 7, 12, 13, 14, 15, 5, 16, 17, 18, 19, 20, 21, 22, 58, 59, 60, 61, 62, 63, 64] (by decide +kernel) (by decide +kernel)
set_option maxRecDepth 20000 in
theorem gX1_foldOther_X1_approachOf : GoodIn wsX1_foldOther (wsV RX1 79 RX1 yX1_approachOf wsX1_approachOf) := goodIn_app (goodIn_of _ (by decide +kernel)) ggX1_foldOther_X1_approachOf
set_option maxRecDepth 20000 in
theorem ggX1_foldOther_X0_part : GoodIn wsX1_foldOther wsX0_part := goodIn_r _ [27, 28, 29, 30, 31, 32, 33, 26, 34, 35, 36, 37, 61, 62, 63, 64] (by decide +kernel) (by decide +kernel)
set_option maxRecDepth 20000 in
theorem gX1_foldOther_X0_part : GoodIn wsX1_foldOther (wsV RX1 152 RX0 yX0_part wsX0_part) := goodIn_app (goodIn_of _ (by decide +kernel)) ggX1_foldOther_X0_part
set_option maxRecDepth 20000 in
theorem ggX1_foldOther_X1_sectorOf : GoodIn wsX1_foldOther wsX1_sectorOf := goodIn_r _ [41, 17, 7, 18, 42, 43, 44, 45, 58, 59, 60] (by decide +kernel) (by decide +kernel)
set_option maxRecDepth 20000 in
theorem gX1_foldOther_X1_sectorOf : GoodIn wsX1_foldOther (wsV RX1 116 RX1 yX1_sectorOf wsX1_sectorOf) := goodIn_app (goodIn_of _ (by decide +kernel)) ggX1_foldOther_X1_sectorOf
set_option maxRecDepth 20000 in
theorem ggX1_foldOther_X1_blockedBy : GoodIn wsX1_foldOther wsX1_blockedBy := goodIn_r _ [49, 7, 50, 51, 52, 5, 53, 12, 13, 14, 15, 16, 17, 18, 19, 20, 21, 22, 54, 55, 56, 26, 57, 30, 31, 28, 29, 58, 59, 60, 61, 62, 63, 64] (by decide +kernel) (by decide +kernel)
set_option maxRecDepth 20000 in
theorem gX1_foldOther_X1_blockedBy : GoodIn wsX1_foldOther (wsV RX1 156 RX1 yX1_blockedBy wsX1_blockedBy) := goodIn_app (goodIn_of _ (by decide +kernel)) ggX1_foldOther_X1_blockedBy
theorem dX1_foldOther_0 : decode cX1_foldOther 0 = .ok (.ldc2_w 141, 3) := by decide +kernel
theorem dX1_foldOther_3 : decode cX1_foldOther 3 = .ok (.lload_n 1, 1) := by decide +kernel
theorem dX1_foldOther_4 : decode cX1_foldOther 4 = .ok (.lmul, 1) := by decide +kernel
theorem dX1_foldOther_5 : decode cX1_foldOther 5 = .ok (.aload_n 0, 1) := by decide +kernel
theorem dX1_foldOther_6 : decode cX1_foldOther 6 = .ok (.iload_n 3, 1) := by decide +kernel
theorem dX1_foldOther_7 : decode cX1_foldOther 7 = .ok (.invokevirtual 149, 3) := by decide +kernel
theorem dX1_foldOther_10 : decode cX1_foldOther 10 = .ok (.i2l, 1) := by decide +kernel
theorem dX1_foldOther_11 : decode cX1_foldOther 11 = .ok (.ladd, 1) := by decide +kernel
theorem dX1_foldOther_12 : decode cX1_foldOther 12 = .ok (.lstore_n 1, 1) := by decide +kernel
theorem dX1_foldOther_13 : decode cX1_foldOther 13 = .ok (.aload_n 0, 1) := by decide +kernel
theorem dX1_foldOther_14 : decode cX1_foldOther 14 = .ok (.iconst 0, 1) := by decide +kernel
theorem dX1_foldOther_15 : decode cX1_foldOther 15 = .ok (.iload_n 3, 1) := by decide +kernel
theorem dX1_foldOther_16 : decode cX1_foldOther 16 = .ok (.invokevirtual 79, 3) := by decide +kernel
theorem dX1_foldOther_19 : decode cX1_foldOther 19 = .ok (.astore 4, 2) := by decide +kernel
theorem dX1_foldOther_21 : decode cX1_foldOther 21 = .ok (.iconst 0, 1) := by decide +kernel
theorem dX1_foldOther_22 : decode cX1_foldOther 22 = .ok (.istore 5, 2) := by decide +kernel
theorem dX1_foldOther_24 : decode cX1_foldOther 24 = .ok (.iload 5, 2) := by decide +kernel
theorem dX1_foldOther_26 : decode cX1_foldOther 26 = .ok (.iconst 3, 1) := by decide +kernel
theorem dX1_foldOther_27 : decode cX1_foldOther 27 = .ok (.if_icmp .gt 23, 3) := by decide +kernel
theorem dX1_foldOther_30 : decode cX1_foldOther 30 = .ok (.ldc2_w 141, 3) := by decide +kernel
theorem dX1_foldOther_33 : decode cX1_foldOther 33 = .ok (.lload_n 1, 1) := by decide +kernel
theorem dX1_foldOther_34 : decode cX1_foldOther 34 = .ok (.lmul, 1) := by decide +kernel
theorem dX1_foldOther_35 : decode cX1_foldOther 35 = .ok (.aload 4, 2) := by decide +kernel
theorem dX1_foldOther_37 : decode cX1_foldOther 37 = .ok (.iload 5, 2) := by decide +kernel
theorem dX1_foldOther_39 : decode cX1_foldOther 39 = .ok (.invokevirtual 152, 3) := by decide +kernel
theorem dX1_foldOther_42 : decode cX1_foldOther 42 = .ok (.ladd, 1) := by decide +kernel
theorem dX1_foldOther_43 : decode cX1_foldOther 43 = .ok (.lstore_n 1, 1) := by decide +kernel
theorem dX1_foldOther_44 : decode cX1_foldOther 44 = .ok (.iinc 5 1, 3) := by decide +kernel
theorem dX1_foldOther_47 : decode cX1_foldOther 47 = .ok (.goto (-23), 3) := by decide +kernel
theorem dX1_foldOther_50 : decode cX1_foldOther 50 = .ok (.ldc2_w 141, 3) := by decide +kernel
theorem dX1_foldOther_53 : decode cX1_foldOther 53 = .ok (.lload_n 1, 1) := by decide +kernel
theorem dX1_foldOther_54 : decode cX1_foldOther 54 = .ok (.lmul, 1) := by decide +kernel
theorem dX1_foldOther_55 : decode cX1_foldOther 55 = .ok (.aload_n 0, 1) := by decide +kernel
theorem dX1_foldOther_56 : decode cX1_foldOther 56 = .ok (.iconst 0, 1) := by decide +kernel
theorem dX1_foldOther_57 : decode cX1_foldOther 57 = .ok (.iload_n 3, 1) := by decide +kernel
theorem dX1_foldOther_58 : decode cX1_foldOther 58 = .ok (.invokevirtual 116, 3) := by decide +kernel
theorem dX1_foldOther_61 : decode cX1_foldOther 61 = .ok (.i2l, 1) := by decide +kernel
theorem dX1_foldOther_62 : decode cX1_foldOther 62 = .ok (.ladd, 1) := by decide +kernel
theorem dX1_foldOther_63 : decode cX1_foldOther 63 = .ok (.lstore_n 1, 1) := by decide +kernel
theorem dX1_foldOther_64 : decode cX1_foldOther 64 = .ok (.ldc2_w 141, 3) := by decide +kernel
theorem dX1_foldOther_67 : decode cX1_foldOther 67 = .ok (.lload_n 1, 1) := by decide +kernel
theorem dX1_foldOther_68 : decode cX1_foldOther 68 = .ok (.lmul, 1) := by decide +kernel
theorem dX1_foldOther_69 : decode cX1_foldOther 69 = .ok (.aload_n 0, 1) := by decide +kernel
theorem dX1_foldOther_70 : decode cX1_foldOther 70 = .ok (.iload_n 3, 1) := by decide +kernel
theorem dX1_foldOther_71 : decode cX1_foldOther 71 = .ok (.iconst 0, 1) := by decide +kernel
theorem dX1_foldOther_72 : decode cX1_foldOther 72 = .ok (.invokevirtual 116, 3) := by decide +kernel
theorem dX1_foldOther_75 : decode cX1_foldOther 75 = .ok (.i2l, 1) := by decide +kernel
theorem dX1_foldOther_76 : decode cX1_foldOther 76 = .ok (.ladd, 1) := by decide +kernel
theorem dX1_foldOther_77 : decode cX1_foldOther 77 = .ok (.lstore_n 1, 1) := by decide +kernel
theorem dX1_foldOther_78 : decode cX1_foldOther 78 = .ok (.ldc2_w 141, 3) := by decide +kernel
theorem dX1_foldOther_81 : decode cX1_foldOther 81 = .ok (.lload_n 1, 1) := by decide +kernel
theorem dX1_foldOther_82 : decode cX1_foldOther 82 = .ok (.lmul, 1) := by decide +kernel
theorem dX1_foldOther_83 : decode cX1_foldOther 83 = .ok (.aload_n 0, 1) := by decide +kernel
theorem dX1_foldOther_84 : decode cX1_foldOther 84 = .ok (.iload_n 3, 1) := by decide +kernel
theorem dX1_foldOther_85 : decode cX1_foldOther 85 = .ok (.invokevirtual 156, 3) := by decide +kernel
theorem dX1_foldOther_88 : decode cX1_foldOther 88 = .ok (.i2l, 1) := by decide +kernel
theorem dX1_foldOther_89 : decode cX1_foldOther 89 = .ok (.ladd, 1) := by decide +kernel
theorem dX1_foldOther_90 : decode cX1_foldOther 90 = .ok (.lreturn, 1) := by decide +kernel
theorem dX1_isPlace_0 : decode cX1_isPlace 0 = .ok (.iload_n 0, 1) := by decide +kernel
theorem dX1_isPlace_1 : decode cX1_isPlace 1 = .ok (.sipush (-9999), 3) := by decide +kernel
theorem dX1_isPlace_4 : decode cX1_isPlace 4 = .ok (.if_icmp .lt 14, 3) := by decide +kernel
theorem dX1_isPlace_7 : decode cX1_isPlace 7 = .ok (.iload_n 0, 1) := by decide +kernel
theorem dX1_isPlace_8 : decode cX1_isPlace 8 = .ok (.sipush 9999, 3) := by decide +kernel
theorem dX1_isPlace_11 : decode cX1_isPlace 11 = .ok (.if_icmp .gt 7, 3) := by decide +kernel
theorem dX1_isPlace_14 : decode cX1_isPlace 14 = .ok (.iconst 1, 1) := by decide +kernel
theorem dX1_isPlace_15 : decode cX1_isPlace 15 = .ok (.goto 4, 3) := by decide +kernel
theorem dX1_isPlace_18 : decode cX1_isPlace 18 = .ok (.iconst 0, 1) := by decide +kernel
theorem dX1_isPlace_19 : decode cX1_isPlace 19 = .ok (.ireturn, 1) := by decide +kernel
theorem dX2_init_0 : decode cX2_init 0 = .ok (.aload_n 0, 1) := by decide +kernel
theorem dX2_init_1 : decode cX2_init 1 = .ok (.invokespecial 1, 3) := by decide +kernel
theorem dX2_init_4 : decode cX2_init 4 = .ok (.aload_n 0, 1) := by decide +kernel
theorem dX2_init_5 : decode cX2_init 5 = .ok (.sipush 234, 3) := by decide +kernel
theorem dX2_init_8 : decode cX2_init 8 = .ok (.newarray .int, 2) := by decide +kernel
theorem dX2_init_10 : decode cX2_init 10 = .ok (.putfield 11, 3) := by decide +kernel
theorem dX2_init_13 : decode cX2_init 13 = .ok (.return_, 1) := by decide +kernel
theorem dX2_mark_0 : decode cX2_mark 0 = .ok (.aload_n 1, 1) := by decide +kernel
theorem dX2_mark_1 : decode cX2_mark 1 = .ok (.iconst 0, 1) := by decide +kernel
theorem dX2_mark_2 : decode cX2_mark 2 = .ok (.aload_n 0, 1) := by decide +kernel
theorem dX2_mark_3 : decode cX2_mark 3 = .ok (.getfield 11, 3) := by decide +kernel
theorem dX2_mark_6 : decode cX2_mark 6 = .ok (.aload_n 0, 1) := by decide +kernel
theorem dX2_mark_7 : decode cX2_mark 7 = .ok (.getfield 15, 3) := by decide +kernel
theorem dX2_mark_10 : decode cX2_mark 10 = .ok (.bipush 39, 2) := by decide +kernel
theorem dX2_mark_12 : decode cX2_mark 12 = .ok (.imul, 1) := by decide +kernel
theorem dX2_mark_13 : decode cX2_mark 13 = .ok (.bipush 39, 2) := by decide +kernel
theorem dX2_mark_15 : decode cX2_mark 15 = .ok (.invokestatic 19, 3) := by decide +kernel
theorem dX2_mark_18 : decode cX2_mark 18 = .ok (.return_, 1) := by decide +kernel
theorem dX2_restore_0 : decode cX2_restore 0 = .ok (.aload_n 0, 1) := by decide +kernel
theorem dX2_restore_1 : decode cX2_restore 1 = .ok (.getfield 11, 3) := by decide +kernel
theorem dX2_restore_4 : decode cX2_restore 4 = .ok (.aload_n 0, 1) := by decide +kernel
theorem dX2_restore_5 : decode cX2_restore 5 = .ok (.getfield 15, 3) := by decide +kernel
theorem dX2_restore_8 : decode cX2_restore 8 = .ok (.bipush 39, 2) := by decide +kernel
theorem dX2_restore_10 : decode cX2_restore 10 = .ok (.imul, 1) := by decide +kernel
theorem dX2_restore_11 : decode cX2_restore 11 = .ok (.aload_n 1, 1) := by decide +kernel
theorem dX2_restore_12 : decode cX2_restore 12 = .ok (.iconst 0, 1) := by decide +kernel
theorem dX2_restore_13 : decode cX2_restore 13 = .ok (.bipush 39, 2) := by decide +kernel
theorem dX2_restore_15 : decode cX2_restore 15 = .ok (.invokestatic 19, 3) := by decide +kernel
theorem dX2_restore_18 : decode cX2_restore 18 = .ok (.return_, 1) := by decide +kernel
theorem dX2_keep_0 : decode cX2_keep 0 = .ok (.aload_n 0, 1) := by decide +kernel
theorem dX2_keep_1 : decode cX2_keep 1 = .ok (.getfield 15, 3) := by decide +kernel
theorem dX2_keep_4 : decode cX2_keep 4 = .ok (.iconst 5, 1) := by decide +kernel
theorem dX2_keep_5 : decode cX2_keep 5 = .ok (.if_icmp .ge 16, 3) := by decide +kernel
theorem dX2_keep_8 : decode cX2_keep 8 = .ok (.aload_n 0, 1) := by decide +kernel
theorem dX2_keep_9 : decode cX2_keep 9 = .ok (.dup, 1) := by decide +kernel
theorem dX2_keep_10 : decode cX2_keep 10 = .ok (.getfield 15, 3) := by decide +kernel
theorem dX2_keep_13 : decode cX2_keep 13 = .ok (.iconst 1, 1) := by decide +kernel
theorem dX2_keep_14 : decode cX2_keep 14 = .ok (.iadd, 1) := by decide +kernel
theorem dX2_keep_15 : decode cX2_keep 15 = .ok (.putfield 15, 3) := by decide +kernel
theorem dX2_keep_18 : decode cX2_keep 18 = .ok (.goto 20, 3) := by decide +kernel
theorem dX2_keep_21 : decode cX2_keep 21 = .ok (.aload_n 0, 1) := by decide +kernel
theorem dX2_keep_22 : decode cX2_keep 22 = .ok (.getfield 11, 3) := by decide +kernel
theorem dX2_keep_25 : decode cX2_keep 25 = .ok (.bipush 39, 2) := by decide +kernel
theorem dX2_keep_27 : decode cX2_keep 27 = .ok (.aload_n 0, 1) := by decide +kernel
theorem dX2_keep_28 : decode cX2_keep 28 = .ok (.getfield 11, 3) := by decide +kernel
theorem dX2_keep_31 : decode cX2_keep 31 = .ok (.iconst 0, 1) := by decide +kernel
theorem dX2_keep_32 : decode cX2_keep 32 = .ok (.sipush 195, 3) := by decide +kernel
theorem dX2_keep_35 : decode cX2_keep 35 = .ok (.invokestatic 19, 3) := by decide +kernel
theorem dX2_keep_38 : decode cX2_keep 38 = .ok (.return_, 1) := by decide +kernel
set_option maxRecDepth 20000 in
theorem ggX2_takeBack_X2_restore : GoodIn wsX2_takeBack wsX2_restore := goodIn_r _ [6, 7, 1, 8, 9, 10, 11, 12, 13] (by decide +kernel) (by decide +kernel)
set_option maxRecDepth 20000 in
theorem gX2_takeBack_X2_restore : GoodIn wsX2_takeBack (wsV RX2 25 RX2 yX2_restore wsX2_restore) := goodIn_app (goodIn_of _ (by decide +kernel)) ggX2_takeBack_X2_restore
theorem dX2_takeBack_0 : decode cX2_takeBack 0 = .ok (.aload_n 0, 1) := by decide +kernel
theorem dX2_takeBack_1 : decode cX2_takeBack 1 = .ok (.getfield 15, 3) := by decide +kernel
theorem dX2_takeBack_4 : decode cX2_takeBack 4 = .ok (.ifCond .ne 4, 3) := by decide +kernel
theorem dX2_takeBack_7 : decode cX2_takeBack 7 = .ok (.return_, 1) := by decide +kernel
theorem dX2_takeBack_8 : decode cX2_takeBack 8 = .ok (.aload_n 0, 1) := by decide +kernel
theorem dX2_takeBack_9 : decode cX2_takeBack 9 = .ok (.dup, 1) := by decide +kernel
theorem dX2_takeBack_10 : decode cX2_takeBack 10 = .ok (.getfield 15, 3) := by decide +kernel
theorem dX2_takeBack_13 : decode cX2_takeBack 13 = .ok (.iconst 1, 1) := by decide +kernel
theorem dX2_takeBack_14 : decode cX2_takeBack 14 = .ok (.isub, 1) := by decide +kernel
theorem dX2_takeBack_15 : decode cX2_takeBack 15 = .ok (.putfield 15, 3) := by decide +kernel
theorem dX2_takeBack_18 : decode cX2_takeBack 18 = .ok (.aload_n 0, 1) := by decide +kernel
theorem dX2_takeBack_19 : decode cX2_takeBack 19 = .ok (.aload_n 1, 1) := by decide +kernel
theorem dX2_takeBack_20 : decode cX2_takeBack 20 = .ok (.invokevirtual 25, 3) := by decide +kernel
theorem dX2_takeBack_23 : decode cX2_takeBack 23 = .ok (.return_, 1) := by decide +kernel
theorem dX3_init_0 : decode cX3_init 0 = .ok (.aload_n 0, 1) := by decide +kernel
theorem dX3_init_1 : decode cX3_init 1 = .ok (.invokespecial 5, 3) := by decide +kernel
theorem dX3_init_4 : decode cX3_init 4 = .ok (.aload_n 0, 1) := by decide +kernel
theorem dX3_init_5 : decode cX3_init 5 = .ok (.sipush 150, 3) := by decide +kernel
theorem dX3_init_8 : decode cX3_init 8 = .ok (.newarray .byte, 2) := by decide +kernel
theorem dX3_init_10 : decode cX3_init 10 = .ok (.putfield 11, 3) := by decide +kernel
theorem dX3_init_13 : decode cX3_init 13 = .ok (.aload_n 0, 1) := by decide +kernel
theorem dX3_init_14 : decode cX3_init 14 = .ok (.iconst 4, 1) := by decide +kernel
theorem dX3_init_15 : decode cX3_init 15 = .ok (.newarray .int, 2) := by decide +kernel
theorem dX3_init_17 : decode cX3_init 17 = .ok (.putfield 15, 3) := by decide +kernel
theorem dX3_init_20 : decode cX3_init 20 = .ok (.return_, 1) := by decide +kernel
theorem dX3_append_0 : decode cX3_append 0 = .ok (.iload_n 1, 1) := by decide +kernel
theorem dX3_append_1 : decode cX3_append 1 = .ok (.ifCond .lt 9, 3) := by decide +kernel
theorem dX3_append_4 : decode cX3_append 4 = .ok (.iload_n 1, 1) := by decide +kernel
theorem dX3_append_5 : decode cX3_append 5 = .ok (.bipush 127, 2) := by decide +kernel
theorem dX3_append_7 : decode cX3_append 7 = .ok (.if_icmp .le 7, 3) := by decide +kernel
theorem dX3_append_10 : decode cX3_append 10 = .ok (.sipush (-10002), 3) := by decide +kernel
theorem dX3_append_13 : decode cX3_append 13 = .ok (.ireturn, 1) := by decide +kernel
theorem dX3_append_14 : decode cX3_append 14 = .ok (.aload_n 0, 1) := by decide +kernel
theorem dX3_append_15 : decode cX3_append 15 = .ok (.getfield 19, 3) := by decide +kernel
theorem dX3_append_18 : decode cX3_append 18 = .ok (.sipush 150, 3) := by decide +kernel
theorem dX3_append_21 : decode cX3_append 21 = .ok (.if_icmp .lt 7, 3) := by decide +kernel
theorem dX3_append_24 : decode cX3_append 24 = .ok (.sipush (-10004), 3) := by decide +kernel
theorem dX3_append_27 : decode cX3_append 27 = .ok (.ireturn, 1) := by decide +kernel
theorem dX3_append_28 : decode cX3_append 28 = .ok (.aload_n 0, 1) := by decide +kernel
theorem dX3_append_29 : decode cX3_append 29 = .ok (.getfield 11, 3) := by decide +kernel
theorem dX3_append_32 : decode cX3_append 32 = .ok (.aload_n 0, 1) := by decide +kernel
theorem dX3_append_33 : decode cX3_append 33 = .ok (.getfield 19, 3) := by decide +kernel
theorem dX3_append_36 : decode cX3_append 36 = .ok (.iload_n 1, 1) := by decide +kernel
theorem dX3_append_37 : decode cX3_append 37 = .ok (.i2b, 1) := by decide +kernel
theorem dX3_append_38 : decode cX3_append 38 = .ok (.bastore, 1) := by decide +kernel
theorem dX3_append_39 : decode cX3_append 39 = .ok (.aload_n 0, 1) := by decide +kernel
theorem dX3_append_40 : decode cX3_append 40 = .ok (.dup, 1) := by decide +kernel
theorem dX3_append_41 : decode cX3_append 41 = .ok (.getfield 19, 3) := by decide +kernel
theorem dX3_append_44 : decode cX3_append 44 = .ok (.iconst 1, 1) := by decide +kernel
theorem dX3_append_45 : decode cX3_append 45 = .ok (.iadd, 1) := by decide +kernel
theorem dX3_append_46 : decode cX3_append 46 = .ok (.putfield 19, 3) := by decide +kernel
theorem dX3_append_49 : decode cX3_append 49 = .ok (.aload_n 0, 1) := by decide +kernel
theorem dX3_append_50 : decode cX3_append 50 = .ok (.getfield 19, 3) := by decide +kernel
theorem dX3_append_53 : decode cX3_append 53 = .ok (.ireturn, 1) := by decide +kernel
theorem dX3_empty_0 : decode cX3_empty 0 = .ok (.aload_n 0, 1) := by decide +kernel
theorem dX3_empty_1 : decode cX3_empty 1 = .ok (.getfield 19, 3) := by decide +kernel
theorem dX3_empty_4 : decode cX3_empty 4 = .ok (.istore_n 1, 1) := by decide +kernel
theorem dX3_empty_5 : decode cX3_empty 5 = .ok (.aload_n 0, 1) := by decide +kernel
theorem dX3_empty_6 : decode cX3_empty 6 = .ok (.iconst 0, 1) := by decide +kernel
theorem dX3_empty_7 : decode cX3_empty 7 = .ok (.putfield 19, 3) := by decide +kernel
theorem dX3_empty_10 : decode cX3_empty 10 = .ok (.iload_n 1, 1) := by decide +kernel
theorem dX3_empty_11 : decode cX3_empty 11 = .ok (.ireturn, 1) := by decide +kernel
set_option maxRecDepth 20000 in
theorem ggX3_faultPlace_X3_rewind : GoodIn wsX3_faultPlace wsX3_rewind := goodIn_r _ [7, 2, 8, 9, 10, 6, 11, 1, 12, 13, 14, 15, 16, 37, 38, 39, 40, 41] (by decide +kernel) (by decide +kernel)
set_option maxRecDepth 20000 in
theorem gX3_faultPlace_X3_rewind : GoodIn wsX3_faultPlace (wsV RX3 23 RX3 yX3_rewind wsX3_rewind) := goodIn_app (goodIn_of _ (by decide +kernel)) ggX3_faultPlace_X3_rewind
set_option maxRecDepth 20000 in
theorem ggX3_faultPlace_X3_hasMore : GoodIn wsX3_faultPlace wsX3_hasMore := goodIn_r _ [20, 2, 1, 37, 38, 39, 40, 41] (by decide +kernel) (by decide +kernel)
set_option maxRecDepth 20000 in
theorem gX3_faultPlace_X3_hasMore : GoodIn wsX3_faultPlace (wsV RX3 26 RX3 yX3_hasMore wsX3_hasMore) := goodIn_app (goodIn_of _ (by decide +kernel)) ggX3_faultPlace_X3_hasMore
set_option maxRecDepth 20000 in
theorem ggX3_faultPlace_X3_readOrder : GoodIn wsX3_faultPlace wsX3_readOrder := goodIn_r _ [24, 25, 2, 12, 13, 14, 6, 15, 1, 16, 26, 27, 28, 8, 9, 10, 11, 29, 30, 31, 32, 33, 34, 35, 36, 37, 38, 39, 40, 41] (by decide +kernel) (by decide +kernel)
set_option maxRecDepth 20000 in
theorem gX3_faultPlace_X3_readOrder : GoodIn wsX3_faultPlace (wsV RX3 30 RX3 yX3_readOrder wsX3_readOrder) := goodIn_app (goodIn_of _ (by decide +kernel)) ggX3_faultPlace_X3_readOrder
theorem dX3_faultPlace_0 : decode cX3_faultPlace 0 = .ok (.aload_n 0, 1) := by decide +kernel
theorem dX3_faultPlace_1 : decode cX3_faultPlace 1 = .ok (.invokevirtual 23, 3) := by decide +kernel
theorem dX3_faultPlace_4 : decode cX3_faultPlace 4 = .ok (.aload_n 0, 1) := by decide +kernel
theorem dX3_faultPlace_5 : decode cX3_faultPlace 5 = .ok (.invokevirtual 26, 3) := by decide +kernel
theorem dX3_faultPlace_8 : decode cX3_faultPlace 8 = .ok (.ifCond .ne 8, 3) := by decide +kernel
theorem dX3_faultPlace_11 : decode cX3_faultPlace 11 = .ok (.aload_n 0, 1) := by decide +kernel
theorem dX3_faultPlace_12 : decode cX3_faultPlace 12 = .ok (.getfield 19, 3) := by decide +kernel
theorem dX3_faultPlace_15 : decode cX3_faultPlace 15 = .ok (.ireturn, 1) := by decide +kernel
theorem dX3_faultPlace_16 : decode cX3_faultPlace 16 = .ok (.iconst 0, 1) := by decide +kernel
theorem dX3_faultPlace_17 : decode cX3_faultPlace 17 = .ok (.istore_n 1, 1) := by decide +kernel
theorem dX3_faultPlace_18 : decode cX3_faultPlace 18 = .ok (.iload_n 1, 1) := by decide +kernel
theorem dX3_faultPlace_19 : decode cX3_faultPlace 19 = .ok (.bipush 75, 2) := by decide +kernel
theorem dX3_faultPlace_21 : decode cX3_faultPlace 21 = .ok (.if_icmp .ge 28, 3) := by decide +kernel
theorem dX3_faultPlace_24 : decode cX3_faultPlace 24 = .ok (.aload_n 0, 1) := by decide +kernel
theorem dX3_faultPlace_25 : decode cX3_faultPlace 25 = .ok (.invokevirtual 26, 3) := by decide +kernel
theorem dX3_faultPlace_28 : decode cX3_faultPlace 28 = .ok (.ifCond .eq 21, 3) := by decide +kernel
theorem dX3_faultPlace_31 : decode cX3_faultPlace 31 = .ok (.aload_n 0, 1) := by decide +kernel
theorem dX3_faultPlace_32 : decode cX3_faultPlace 32 = .ok (.invokevirtual 30, 3) := by decide +kernel
theorem dX3_faultPlace_35 : decode cX3_faultPlace 35 = .ok (.ifCond .ne 8, 3) := by decide +kernel
theorem dX3_faultPlace_38 : decode cX3_faultPlace 38 = .ok (.aload_n 0, 1) := by decide +kernel
theorem dX3_faultPlace_39 : decode cX3_faultPlace 39 = .ok (.getfield 33, 3) := by decide +kernel
theorem dX3_faultPlace_42 : decode cX3_faultPlace 42 = .ok (.ireturn, 1) := by decide +kernel
theorem dX3_faultPlace_43 : decode cX3_faultPlace 43 = .ok (.iinc 1 1, 3) := by decide +kernel
theorem dX3_faultPlace_46 : decode cX3_faultPlace 46 = .ok (.goto (-28), 3) := by decide +kernel
theorem dX3_faultPlace_49 : decode cX3_faultPlace 49 = .ok (.iconst (-1), 1) := by decide +kernel
theorem dX3_faultPlace_50 : decode cX3_faultPlace 50 = .ok (.ireturn, 1) := by decide +kernel
set_option maxRecDepth 20000 in
theorem ggX3_rewind_X3_skipBlanks : GoodIn wsX3_rewind wsX3_skipBlanks := goodIn_r _ [6, 1, 7, 8, 9, 10, 5, 11, 12, 13, 14, 15, 16, 17] (by decide +kernel) (by decide +kernel)
set_option maxRecDepth 20000 in
theorem gX3_rewind_X3_skipBlanks : GoodIn wsX3_rewind (wsV RX3 36 RX3 yX3_skipBlanks wsX3_skipBlanks) := goodIn_app (goodIn_of _ (by decide +kernel)) ggX3_rewind_X3_skipBlanks
theorem dX3_rewind_0 : decode cX3_rewind 0 = .ok (.aload_n 0, 1) := by decide +kernel
theorem dX3_rewind_1 : decode cX3_rewind 1 = .ok (.iconst 0, 1) := by decide +kernel
theorem dX3_rewind_2 : decode cX3_rewind 2 = .ok (.putfield 33, 3) := by decide +kernel
theorem dX3_rewind_5 : decode cX3_rewind 5 = .ok (.aload_n 0, 1) := by decide +kernel
theorem dX3_rewind_6 : decode cX3_rewind 6 = .ok (.invokevirtual 36, 3) := by decide +kernel
theorem dX3_rewind_9 : decode cX3_rewind 9 = .ok (.return_, 1) := by decide +kernel
theorem dX3_hasMore_0 : decode cX3_hasMore 0 = .ok (.aload_n 0, 1) := by decide +kernel
theorem dX3_hasMore_1 : decode cX3_hasMore 1 = .ok (.getfield 33, 3) := by decide +kernel
theorem dX3_hasMore_4 : decode cX3_hasMore 4 = .ok (.aload_n 0, 1) := by decide +kernel
theorem dX3_hasMore_5 : decode cX3_hasMore 5 = .ok (.getfield 19, 3) := by decide +kernel
theorem dX3_hasMore_8 : decode cX3_hasMore 8 = .ok (.if_icmp .ge 7, 3) := by decide +kernel
theorem dX3_hasMore_11 : decode cX3_hasMore 11 = .ok (.iconst 1, 1) := by decide +kernel
theorem dX3_hasMore_12 : decode cX3_hasMore 12 = .ok (.goto 4, 3) := by decide +kernel
theorem dX3_hasMore_15 : decode cX3_hasMore 15 = .ok (.iconst 0, 1) := by decide +kernel
theorem dX3_hasMore_16 : decode cX3_hasMore 16 = .ok (.ireturn, 1) := by decide +kernel
set_option maxRecDepth 20000 in
theorem ggX3_readOrder_X3_next : GoodIn wsX3_readOrder wsX3_next := goodIn_r _ [7, 2, 8, 9, 25, 26, 27, 28, 29] (by decide +kernel) (by decide +kernel)
set_option maxRecDepth 20000 in
theorem gX3_readOrder_X3_next : GoodIn wsX3_readOrder (wsV RX3 39 RX3 yX3_next wsX3_next) := goodIn_app (goodIn_of _ (by decide +kernel)) ggX3_readOrder_X3_next
set_option maxRecDepth 20000 in
theorem ggX3_readOrder_X3_numbersOf : GoodIn wsX3_readOrder wsX3_numbersOf := goodIn_r _ [12] (by decide +kernel) (by decide +kernel)
set_option maxRecDepth 20000 in
theorem gX3_readOrder_X3_numbersOf : GoodIn wsX3_readOrder (va_wsS RX3 46 yX3_numbersOf wsX3_numbersOf) := goodIn_app (goodIn_of _ (by decide +kernel)) ggX3_readOrder_X3_numbersOf
set_option maxRecDepth 20000 in
theorem ggX3_readOrder_X3_skipBlanks : GoodIn wsX3_readOrder wsX3_skipBlanks := goodIn_r _ [16, 2, 8, 3, 4, 5, 6, 7, 9, 25, 26, 27, 28, 29] (by decide +kernel) (by decide +kernel)
set_option maxRecDepth 20000 in
theorem gX3_readOrder_X3_skipBlanks : GoodIn wsX3_readOrder (wsV RX3 36 RX3 yX3_skipBlanks wsX3_skipBlanks) := goodIn_app (goodIn_of _ (by decide +kernel)) ggX3_readOrder_X3_skipBlanks
set_option maxRecDepth 20000 in
theorem ggX3_readOrder_X3_readNumber : GoodIn wsX3_readOrder wsX3_readNumber := goodIn_r _ [20, 2, 21, 3, 4, 5, 6, 7, 8, 9, 22, 23, 24, 25, 26, 27, 28, 29] (by decide +kernel) (by decide +kernel)
set_option maxRecDepth 20000 in
theorem gX3_readOrder_X3_readNumber : GoodIn wsX3_readOrder (wsV RX3 50 RX3 yX3_readNumber wsX3_readNumber) := goodIn_app (goodIn_of _ (by decide +kernel)) ggX3_readOrder_X3_readNumber
theorem dX3_readOrder_0 : decode cX3_readOrder 0 = .ok (.aload_n 0, 1) := by decide +kernel
theorem dX3_readOrder_1 : decode cX3_readOrder 1 = .ok (.aload_n 0, 1) := by decide +kernel
theorem dX3_readOrder_2 : decode cX3_readOrder 2 = .ok (.invokevirtual 39, 3) := by decide +kernel
theorem dX3_readOrder_5 : decode cX3_readOrder 5 = .ok (.putfield 43, 3) := by decide +kernel
theorem dX3_readOrder_8 : decode cX3_readOrder 8 = .ok (.aload_n 0, 1) := by decide +kernel
theorem dX3_readOrder_9 : decode cX3_readOrder 9 = .ok (.getfield 43, 3) := by decide +kernel
theorem dX3_readOrder_12 : decode cX3_readOrder 12 = .ok (.invokestatic 46, 3) := by decide +kernel
theorem dX3_readOrder_15 : decode cX3_readOrder 15 = .ok (.istore_n 1, 1) := by decide +kernel
theorem dX3_readOrder_16 : decode cX3_readOrder 16 = .ok (.iload_n 1, 1) := by decide +kernel
theorem dX3_readOrder_17 : decode cX3_readOrder 17 = .ok (.ifCond .ge 5, 3) := by decide +kernel
theorem dX3_readOrder_20 : decode cX3_readOrder 20 = .ok (.iconst 0, 1) := by decide +kernel
theorem dX3_readOrder_21 : decode cX3_readOrder 21 = .ok (.ireturn, 1) := by decide +kernel
theorem dX3_readOrder_22 : decode cX3_readOrder 22 = .ok (.aload_n 0, 1) := by decide +kernel
theorem dX3_readOrder_23 : decode cX3_readOrder 23 = .ok (.dup, 1) := by decide +kernel
theorem dX3_readOrder_24 : decode cX3_readOrder 24 = .ok (.getfield 33, 3) := by decide +kernel
theorem dX3_readOrder_27 : decode cX3_readOrder 27 = .ok (.iconst 1, 1) := by decide +kernel
theorem dX3_readOrder_28 : decode cX3_readOrder 28 = .ok (.iadd, 1) := by decide +kernel
theorem dX3_readOrder_29 : decode cX3_readOrder 29 = .ok (.putfield 33, 3) := by decide +kernel
theorem dX3_readOrder_32 : decode cX3_readOrder 32 = .ok (.aload_n 0, 1) := by decide +kernel
theorem dX3_readOrder_33 : decode cX3_readOrder 33 = .ok (.getfield 43, 3) := by decide +kernel
theorem dX3_readOrder_36 : decode cX3_readOrder 36 = .ok (.bipush 97, 2) := by decide +kernel
theorem dX3_readOrder_38 : decode cX3_readOrder 38 = .ok (.if_icmp .eq 12, 3) := by decide +kernel
theorem dX3_readOrder_41 : decode cX3_readOrder 41 = .ok (.aload_n 0, 1) := by decide +kernel
theorem dX3_readOrder_42 : decode cX3_readOrder 42 = .ok (.getfield 43, 3) := by decide +kernel
theorem dX3_readOrder_45 : decode cX3_readOrder 45 = .ok (.bipush 111, 2) := by decide +kernel
theorem dX3_readOrder_47 : decode cX3_readOrder 47 = .ok (.if_icmp .ne 7, 3) := by decide +kernel
theorem dX3_readOrder_50 : decode cX3_readOrder 50 = .ok (.iconst 1, 1) := by decide +kernel
theorem dX3_readOrder_51 : decode cX3_readOrder 51 = .ok (.goto 4, 3) := by decide +kernel
theorem dX3_readOrder_54 : decode cX3_readOrder 54 = .ok (.iconst 0, 1) := by decide +kernel
theorem dX3_readOrder_55 : decode cX3_readOrder 55 = .ok (.istore_n 2, 1) := by decide +kernel
theorem dX3_readOrder_56 : decode cX3_readOrder 56 = .ok (.iconst 0, 1) := by decide +kernel
theorem dX3_readOrder_57 : decode cX3_readOrder 57 = .ok (.istore_n 3, 1) := by decide +kernel
theorem dX3_readOrder_58 : decode cX3_readOrder 58 = .ok (.iload_n 3, 1) := by decide +kernel
theorem dX3_readOrder_59 : decode cX3_readOrder 59 = .ok (.iload_n 1, 1) := by decide +kernel
theorem dX3_readOrder_60 : decode cX3_readOrder 60 = .ok (.if_icmp .ge 37, 3) := by decide +kernel
theorem dX3_readOrder_63 : decode cX3_readOrder 63 = .ok (.aload_n 0, 1) := by decide +kernel
theorem dX3_readOrder_64 : decode cX3_readOrder 64 = .ok (.invokevirtual 36, 3) := by decide +kernel
theorem dX3_readOrder_67 : decode cX3_readOrder 67 = .ok (.aload_n 0, 1) := by decide +kernel
theorem dX3_readOrder_68 : decode cX3_readOrder 68 = .ok (.iload_n 3, 1) := by decide +kernel
theorem dX3_readOrder_69 : decode cX3_readOrder 69 = .ok (.iload_n 2, 1) := by decide +kernel
theorem dX3_readOrder_70 : decode cX3_readOrder 70 = .ok (.ifCond .eq 12, 3) := by decide +kernel
theorem dX3_readOrder_73 : decode cX3_readOrder 73 = .ok (.iload_n 3, 1) := by decide +kernel
theorem dX3_readOrder_74 : decode cX3_readOrder 74 = .ok (.iconst 2, 1) := by decide +kernel
theorem dX3_readOrder_75 : decode cX3_readOrder 75 = .ok (.if_icmp .ge 7, 3) := by decide +kernel
theorem dX3_readOrder_78 : decode cX3_readOrder 78 = .ok (.iconst 1, 1) := by decide +kernel
theorem dX3_readOrder_79 : decode cX3_readOrder 79 = .ok (.goto 4, 3) := by decide +kernel
theorem dX3_readOrder_82 : decode cX3_readOrder 82 = .ok (.iconst 0, 1) := by decide +kernel
theorem dX3_readOrder_83 : decode cX3_readOrder 83 = .ok (.invokevirtual 50, 3) := by decide +kernel
theorem dX3_readOrder_86 : decode cX3_readOrder 86 = .ok (.ifCond .ne 5, 3) := by decide +kernel
theorem dX3_readOrder_89 : decode cX3_readOrder 89 = .ok (.iconst 0, 1) := by decide +kernel
theorem dX3_readOrder_90 : decode cX3_readOrder 90 = .ok (.ireturn, 1) := by decide +kernel
theorem dX3_readOrder_91 : decode cX3_readOrder 91 = .ok (.iinc 3 1, 3) := by decide +kernel
theorem dX3_readOrder_94 : decode cX3_readOrder 94 = .ok (.goto (-36), 3) := by decide +kernel
theorem dX3_readOrder_97 : decode cX3_readOrder 97 = .ok (.aload_n 0, 1) := by decide +kernel
theorem dX3_readOrder_98 : decode cX3_readOrder 98 = .ok (.invokevirtual 36, 3) := by decide +kernel
theorem dX3_readOrder_101 : decode cX3_readOrder 101 = .ok (.aload_n 0, 1) := by decide +kernel
theorem dX3_readOrder_102 : decode cX3_readOrder 102 = .ok (.invokevirtual 39, 3) := by decide +kernel
theorem dX3_readOrder_105 : decode cX3_readOrder 105 = .ok (.bipush 59, 2) := by decide +kernel
theorem dX3_readOrder_107 : decode cX3_readOrder 107 = .ok (.if_icmp .eq 5, 3) := by decide +kernel
theorem dX3_readOrder_110 : decode cX3_readOrder 110 = .ok (.iconst 0, 1) := by decide +kernel
theorem dX3_readOrder_111 : decode cX3_readOrder 111 = .ok (.ireturn, 1) := by decide +kernel
theorem dX3_readOrder_112 : decode cX3_readOrder 112 = .ok (.aload_n 0, 1) := by decide +kernel
theorem dX3_readOrder_113 : decode cX3_readOrder 113 = .ok (.dup, 1) := by decide +kernel
theorem dX3_readOrder_114 : decode cX3_readOrder 114 = .ok (.getfield 33, 3) := by decide +kernel
theorem dX3_readOrder_117 : decode cX3_readOrder 117 = .ok (.iconst 1, 1) := by decide +kernel
theorem dX3_readOrder_118 : decode cX3_readOrder 118 = .ok (.iadd, 1) := by decide +kernel
theorem dX3_readOrder_119 : decode cX3_readOrder 119 = .ok (.putfield 33, 3) := by decide +kernel
theorem dX3_readOrder_122 : decode cX3_readOrder 122 = .ok (.aload_n 0, 1) := by decide +kernel
theorem dX3_readOrder_123 : decode cX3_readOrder 123 = .ok (.invokevirtual 36, 3) := by decide +kernel
theorem dX3_readOrder_126 : decode cX3_readOrder 126 = .ok (.iconst 1, 1) := by decide +kernel
theorem dX3_readOrder_127 : decode cX3_readOrder 127 = .ok (.ireturn, 1) := by decide +kernel
set_option maxRecDepth 20000 in
theorem ggX3_readNumber_X3_next : GoodIn wsX3_readNumber wsX3_next := goodIn_r _ [7, 1, 8, 9, 13, 14, 15, 16, 17] (by decide +kernel) (by decide +kernel)
set_option maxRecDepth 20000 in
theorem gX3_readNumber_X3_next : GoodIn wsX3_readNumber (wsV RX3 39 RX3 yX3_next wsX3_next) := goodIn_app (goodIn_of _ (by decide +kernel)) ggX3_readNumber_X3_next
set_option maxRecDepth 20000 in
theorem ggX3_readNumber_X3_isFigure : GoodIn wsX3_readNumber wsX3_isFigure := goodIn_r _ [12] (by decide +kernel) (by decide +kernel)
set_option maxRecDepth 20000 in
theorem gX3_readNumber_X3_isFigure : GoodIn wsX3_readNumber (va_wsS RX3 54 yX3_isFigure wsX3_isFigure) := goodIn_app (goodIn_of _ (by decide +kernel)) ggX3_readNumber_X3_isFigure
theorem dX3_readNumber_0 : decode cX3_readNumber 0 = .ok (.iload_n 2, 1) := by decide +kernel
theorem dX3_readNumber_1 : decode cX3_readNumber 1 = .ok (.ifCond .eq 16, 3) := by decide +kernel
theorem dX3_readNumber_4 : decode cX3_readNumber 4 = .ok (.aload_n 0, 1) := by decide +kernel
theorem dX3_readNumber_5 : decode cX3_readNumber 5 = .ok (.invokevirtual 39, 3) := by decide +kernel
theorem dX3_readNumber_8 : decode cX3_readNumber 8 = .ok (.bipush 45, 2) := by decide +kernel
theorem dX3_readNumber_10 : decode cX3_readNumber 10 = .ok (.if_icmp .ne 7, 3) := by decide +kernel
theorem dX3_readNumber_13 : decode cX3_readNumber 13 = .ok (.iconst 1, 1) := by decide +kernel
theorem dX3_readNumber_14 : decode cX3_readNumber 14 = .ok (.goto 4, 3) := by decide +kernel
theorem dX3_readNumber_17 : decode cX3_readNumber 17 = .ok (.iconst 0, 1) := by decide +kernel
theorem dX3_readNumber_18 : decode cX3_readNumber 18 = .ok (.istore_n 3, 1) := by decide +kernel
theorem dX3_readNumber_19 : decode cX3_readNumber 19 = .ok (.iload_n 3, 1) := by decide +kernel
theorem dX3_readNumber_20 : decode cX3_readNumber 20 = .ok (.ifCond .eq 13, 3) := by decide +kernel
theorem dX3_readNumber_23 : decode cX3_readNumber 23 = .ok (.aload_n 0, 1) := by decide +kernel
theorem dX3_readNumber_24 : decode cX3_readNumber 24 = .ok (.dup, 1) := by decide +kernel
theorem dX3_readNumber_25 : decode cX3_readNumber 25 = .ok (.getfield 33, 3) := by decide +kernel
theorem dX3_readNumber_28 : decode cX3_readNumber 28 = .ok (.iconst 1, 1) := by decide +kernel
theorem dX3_readNumber_29 : decode cX3_readNumber 29 = .ok (.iadd, 1) := by decide +kernel
theorem dX3_readNumber_30 : decode cX3_readNumber 30 = .ok (.putfield 33, 3) := by decide +kernel
theorem dX3_readNumber_33 : decode cX3_readNumber 33 = .ok (.aload_n 0, 1) := by decide +kernel
theorem dX3_readNumber_34 : decode cX3_readNumber 34 = .ok (.invokevirtual 39, 3) := by decide +kernel
theorem dX3_readNumber_37 : decode cX3_readNumber 37 = .ok (.invokestatic 54, 3) := by decide +kernel
theorem dX3_readNumber_40 : decode cX3_readNumber 40 = .ok (.ifCond .ne 5, 3) := by decide +kernel
theorem dX3_readNumber_43 : decode cX3_readNumber 43 = .ok (.iconst 0, 1) := by decide +kernel
theorem dX3_readNumber_44 : decode cX3_readNumber 44 = .ok (.ireturn, 1) := by decide +kernel
theorem dX3_readNumber_45 : decode cX3_readNumber 45 = .ok (.iconst 0, 1) := by decide +kernel
theorem dX3_readNumber_46 : decode cX3_readNumber 46 = .ok (.istore 4, 2) := by decide +kernel
theorem dX3_readNumber_48 : decode cX3_readNumber 48 = .ok (.iconst 0, 1) := by decide +kernel
theorem dX3_readNumber_49 : decode cX3_readNumber 49 = .ok (.istore 5, 2) := by decide +kernel
theorem dX3_readNumber_51 : decode cX3_readNumber 51 = .ok (.iload 5, 2) := by decide +kernel
theorem dX3_readNumber_53 : decode cX3_readNumber 53 = .ok (.iconst 4, 1) := by decide +kernel
theorem dX3_readNumber_54 : decode cX3_readNumber 54 = .ok (.if_icmp .ge 44, 3) := by decide +kernel
theorem dX3_readNumber_57 : decode cX3_readNumber 57 = .ok (.aload_n 0, 1) := by decide +kernel
theorem dX3_readNumber_58 : decode cX3_readNumber 58 = .ok (.invokevirtual 39, 3) := by decide +kernel
theorem dX3_readNumber_61 : decode cX3_readNumber 61 = .ok (.invokestatic 54, 3) := by decide +kernel
theorem dX3_readNumber_64 : decode cX3_readNumber 64 = .ok (.ifCond .eq 34, 3) := by decide +kernel
theorem dX3_readNumber_67 : decode cX3_readNumber 67 = .ok (.bipush 10, 2) := by decide +kernel
theorem dX3_readNumber_69 : decode cX3_readNumber 69 = .ok (.iload 4, 2) := by decide +kernel
theorem dX3_readNumber_71 : decode cX3_readNumber 71 = .ok (.imul, 1) := by decide +kernel
theorem dX3_readNumber_72 : decode cX3_readNumber 72 = .ok (.aload_n 0, 1) := by decide +kernel
theorem dX3_readNumber_73 : decode cX3_readNumber 73 = .ok (.invokevirtual 39, 3) := by decide +kernel
theorem dX3_readNumber_76 : decode cX3_readNumber 76 = .ok (.iadd, 1) := by decide +kernel
theorem dX3_readNumber_77 : decode cX3_readNumber 77 = .ok (.bipush 48, 2) := by decide +kernel
theorem dX3_readNumber_79 : decode cX3_readNumber 79 = .ok (.isub, 1) := by decide +kernel
theorem dX3_readNumber_80 : decode cX3_readNumber 80 = .ok (.istore 4, 2) := by decide +kernel
theorem dX3_readNumber_82 : decode cX3_readNumber 82 = .ok (.aload_n 0, 1) := by decide +kernel
theorem dX3_readNumber_83 : decode cX3_readNumber 83 = .ok (.dup, 1) := by decide +kernel
theorem dX3_readNumber_84 : decode cX3_readNumber 84 = .ok (.getfield 33, 3) := by decide +kernel
theorem dX3_readNumber_87 : decode cX3_readNumber 87 = .ok (.iconst 1, 1) := by decide +kernel
theorem dX3_readNumber_88 : decode cX3_readNumber 88 = .ok (.iadd, 1) := by decide +kernel
theorem dX3_readNumber_89 : decode cX3_readNumber 89 = .ok (.putfield 33, 3) := by decide +kernel
theorem dX3_readNumber_92 : decode cX3_readNumber 92 = .ok (.iinc 5 1, 3) := by decide +kernel
theorem dX3_readNumber_95 : decode cX3_readNumber 95 = .ok (.goto (-44), 3) := by decide +kernel
theorem dX3_readNumber_98 : decode cX3_readNumber 98 = .ok (.aload_n 0, 1) := by decide +kernel
theorem dX3_readNumber_99 : decode cX3_readNumber 99 = .ok (.getfield 15, 3) := by decide +kernel
theorem dX3_readNumber_102 : decode cX3_readNumber 102 = .ok (.iload_n 1, 1) := by decide +kernel
theorem dX3_readNumber_103 : decode cX3_readNumber 103 = .ok (.iload_n 3, 1) := by decide +kernel
theorem dX3_readNumber_104 : decode cX3_readNumber 104 = .ok (.ifCond .eq 9, 3) := by decide +kernel
theorem dX3_readNumber_107 : decode cX3_readNumber 107 = .ok (.iload 4, 2) := by decide +kernel
theorem dX3_readNumber_109 : decode cX3_readNumber 109 = .ok (.ineg, 1) := by decide +kernel
theorem dX3_readNumber_110 : decode cX3_readNumber 110 = .ok (.goto 5, 3) := by decide +kernel
theorem dX3_readNumber_113 : decode cX3_readNumber 113 = .ok (.iload 4, 2) := by decide +kernel
theorem dX3_readNumber_115 : decode cX3_readNumber 115 = .ok (.iastore, 1) := by decide +kernel
theorem dX3_readNumber_116 : decode cX3_readNumber 116 = .ok (.aload_n 0, 1) := by decide +kernel
theorem dX3_readNumber_117 : decode cX3_readNumber 117 = .ok (.invokevirtual 39, 3) := by decide +kernel
theorem dX3_readNumber_120 : decode cX3_readNumber 120 = .ok (.invokestatic 54, 3) := by decide +kernel
theorem dX3_readNumber_123 : decode cX3_readNumber 123 = .ok (.ifCond .ne 7, 3) := by decide +kernel
theorem dX3_readNumber_126 : decode cX3_readNumber 126 = .ok (.iconst 1, 1) := by decide +kernel
theorem dX3_readNumber_127 : decode cX3_readNumber 127 = .ok (.goto 4, 3) := by decide +kernel
theorem dX3_readNumber_130 : decode cX3_readNumber 130 = .ok (.iconst 0, 1) := by decide +kernel
theorem dX3_readNumber_131 : decode cX3_readNumber 131 = .ok (.ireturn, 1) := by decide +kernel
set_option maxRecDepth 20000 in
theorem ggX3_skipBlanks_X3_next : GoodIn wsX3_skipBlanks wsX3_next := goodIn_r _ [7, 1, 2, 8, 9, 10, 11, 12, 13] (by decide +kernel) (by decide +kernel)
set_option maxRecDepth 20000 in
theorem gX3_skipBlanks_X3_next : GoodIn wsX3_skipBlanks (wsV RX3 39 RX3 yX3_next wsX3_next) := goodIn_app (goodIn_of _ (by decide +kernel)) ggX3_skipBlanks_X3_next
theorem dX3_skipBlanks_0 : decode cX3_skipBlanks 0 = .ok (.aload_n 0, 1) := by decide +kernel
theorem dX3_skipBlanks_1 : decode cX3_skipBlanks 1 = .ok (.getfield 33, 3) := by decide +kernel
theorem dX3_skipBlanks_4 : decode cX3_skipBlanks 4 = .ok (.aload_n 0, 1) := by decide +kernel
theorem dX3_skipBlanks_5 : decode cX3_skipBlanks 5 = .ok (.getfield 19, 3) := by decide +kernel
theorem dX3_skipBlanks_8 : decode cX3_skipBlanks 8 = .ok (.if_icmp .ge 25, 3) := by decide +kernel
theorem dX3_skipBlanks_11 : decode cX3_skipBlanks 11 = .ok (.aload_n 0, 1) := by decide +kernel
theorem dX3_skipBlanks_12 : decode cX3_skipBlanks 12 = .ok (.invokevirtual 39, 3) := by decide +kernel
theorem dX3_skipBlanks_15 : decode cX3_skipBlanks 15 = .ok (.bipush 32, 2) := by decide +kernel
theorem dX3_skipBlanks_17 : decode cX3_skipBlanks 17 = .ok (.if_icmp .ne 16, 3) := by decide +kernel
theorem dX3_skipBlanks_20 : decode cX3_skipBlanks 20 = .ok (.aload_n 0, 1) := by decide +kernel
theorem dX3_skipBlanks_21 : decode cX3_skipBlanks 21 = .ok (.dup, 1) := by decide +kernel
theorem dX3_skipBlanks_22 : decode cX3_skipBlanks 22 = .ok (.getfield 33, 3) := by decide +kernel
theorem dX3_skipBlanks_25 : decode cX3_skipBlanks 25 = .ok (.iconst 1, 1) := by decide +kernel
theorem dX3_skipBlanks_26 : decode cX3_skipBlanks 26 = .ok (.iadd, 1) := by decide +kernel
theorem dX3_skipBlanks_27 : decode cX3_skipBlanks 27 = .ok (.putfield 33, 3) := by decide +kernel
theorem dX3_skipBlanks_30 : decode cX3_skipBlanks 30 = .ok (.goto (-30), 3) := by decide +kernel
theorem dX3_skipBlanks_33 : decode cX3_skipBlanks 33 = .ok (.return_, 1) := by decide +kernel
theorem dX3_next_0 : decode cX3_next 0 = .ok (.aload_n 0, 1) := by decide +kernel
theorem dX3_next_1 : decode cX3_next 1 = .ok (.getfield 33, 3) := by decide +kernel
theorem dX3_next_4 : decode cX3_next 4 = .ok (.ifCond .lt 36, 3) := by decide +kernel
theorem dX3_next_7 : decode cX3_next 7 = .ok (.aload_n 0, 1) := by decide +kernel
theorem dX3_next_8 : decode cX3_next 8 = .ok (.getfield 33, 3) := by decide +kernel
theorem dX3_next_11 : decode cX3_next 11 = .ok (.aload_n 0, 1) := by decide +kernel
theorem dX3_next_12 : decode cX3_next 12 = .ok (.getfield 19, 3) := by decide +kernel
theorem dX3_next_15 : decode cX3_next 15 = .ok (.if_icmp .ge 25, 3) := by decide +kernel
theorem dX3_next_18 : decode cX3_next 18 = .ok (.aload_n 0, 1) := by decide +kernel
theorem dX3_next_19 : decode cX3_next 19 = .ok (.getfield 33, 3) := by decide +kernel
theorem dX3_next_22 : decode cX3_next 22 = .ok (.sipush 150, 3) := by decide +kernel
theorem dX3_next_25 : decode cX3_next 25 = .ok (.if_icmp .ge 15, 3) := by decide +kernel
theorem dX3_next_28 : decode cX3_next 28 = .ok (.aload_n 0, 1) := by decide +kernel
theorem dX3_next_29 : decode cX3_next 29 = .ok (.getfield 11, 3) := by decide +kernel
theorem dX3_next_32 : decode cX3_next 32 = .ok (.aload_n 0, 1) := by decide +kernel
theorem dX3_next_33 : decode cX3_next 33 = .ok (.getfield 33, 3) := by decide +kernel
theorem dX3_next_36 : decode cX3_next 36 = .ok (.baload, 1) := by decide +kernel
theorem dX3_next_37 : decode cX3_next 37 = .ok (.goto 4, 3) := by decide +kernel
end
section
theorem dX3_next_40 : decode cX3_next 40 = .ok (.iconst (-1), 1) := by decide +kernel
theorem dX3_next_41 : decode cX3_next 41 = .ok (.ireturn, 1) := by decide +kernel
theorem dX3_isFigure_0 : decode cX3_isFigure 0 = .ok (.iload_n 0, 1) := by decide +kernel
theorem dX3_isFigure_1 : decode cX3_isFigure 1 = .ok (.bipush 48, 2) := by decide +kernel
theorem dX3_isFigure_3 : decode cX3_isFigure 3 = .ok (.if_icmp .lt 13, 3) := by decide +kernel
theorem dX3_isFigure_6 : decode cX3_isFigure 6 = .ok (.iload_n 0, 1) := by decide +kernel
theorem dX3_isFigure_7 : decode cX3_isFigure 7 = .ok (.bipush 57, 2) := by decide +kernel
theorem dX3_isFigure_9 : decode cX3_isFigure 9 = .ok (.if_icmp .gt 7, 3) := by decide +kernel
theorem dX3_isFigure_12 : decode cX3_isFigure 12 = .ok (.iconst 1, 1) := by decide +kernel
theorem dX3_isFigure_13 : decode cX3_isFigure 13 = .ok (.goto 4, 3) := by decide +kernel
theorem dX3_isFigure_16 : decode cX3_isFigure 16 = .ok (.iconst 0, 1) := by decide +kernel
theorem dX3_isFigure_17 : decode cX3_isFigure 17 = .ok (.ireturn, 1) := by decide +kernel
theorem dX3_numbersOf_0 : decode cX3_numbersOf 0 = .ok (.iload_n 0, 1) := by decide +kernel
theorem dX3_numbersOf_1 : decode cX3_numbersOf 1 = .ok (.tableswitch 103 97 116 #[95, 101, 103, 103, 103, 103, 103, 103, 103, 103, 103, 103, 103, 99, 95, 103, 103, 103, 97, 97], 95) := by decide +kernel
theorem dX3_numbersOf_96 : decode cX3_numbersOf 96 = .ok (.iconst 4, 1) := by decide +kernel
theorem dX3_numbersOf_97 : decode cX3_numbersOf 97 = .ok (.ireturn, 1) := by decide +kernel
theorem dX3_numbersOf_98 : decode cX3_numbersOf 98 = .ok (.iconst 2, 1) := by decide +kernel
theorem dX3_numbersOf_99 : decode cX3_numbersOf 99 = .ok (.ireturn, 1) := by decide +kernel
theorem dX3_numbersOf_100 : decode cX3_numbersOf 100 = .ok (.iconst 1, 1) := by decide +kernel
theorem dX3_numbersOf_101 : decode cX3_numbersOf 101 = .ok (.ireturn, 1) := by decide +kernel
theorem dX3_numbersOf_102 : decode cX3_numbersOf 102 = .ok (.iconst 0, 1) := by decide +kernel
theorem dX3_numbersOf_103 : decode cX3_numbersOf 103 = .ok (.ireturn, 1) := by decide +kernel
theorem dX3_numbersOf_104 : decode cX3_numbersOf 104 = .ok (.iconst (-1), 1) := by decide +kernel
theorem dX3_numbersOf_105 : decode cX3_numbersOf 105 = .ok (.ireturn, 1) := by decide +kernel
set_option maxRecDepth 20000 in
theorem ggX4_init_X1_init : GoodIn wsX4_init wsX1_init := goodIn_r _ [18, 19, 2, 3, 20, 21, 22, 23, 24, 25, 26, 27, 28, 29, 30, 31, 32, 45, 46, 47, 61, 62, 63, 64] (by decide +kernel) (by decide +kernel)
set_option maxRecDepth 20000 in
theorem gX4_init_X1_init : GoodIn wsX4_init (wsX1_init) := ggX4_init_X1_init
set_option maxRecDepth 20000 in
theorem ggX4_init_X2_init : GoodIn wsX4_init wsX2_init := goodIn_r _ [35, 36, 2, 3, 20, 37, 54, 55] (by decide +kernel) (by decide +kernel)
set_option maxRecDepth 20000 in
theorem gX4_init_X2_init : GoodIn wsX4_init (wsX2_init) := ggX4_init_X2_init
set_option maxRecDepth 20000 in
theorem ggX4_init_X3_init : GoodIn wsX4_init wsX3_init := goodIn_r _ [40, 41, 2, 3, 42, 43, 20, 44, 56, 57, 58, 59, 60] (by decide +kernel) (by decide +kernel)
set_option maxRecDepth 20000 in
theorem gX4_init_X3_init : GoodIn wsX4_init (wsX3_init) := ggX4_init_X3_init
theorem dX4_init_0 : decode cX4_init 0 = .ok (.aload_n 0, 1) := by decide +kernel
theorem dX4_init_1 : decode cX4_init 1 = .ok (.invokespecial 1, 3) := by decide +kernel
theorem dX4_init_4 : decode cX4_init 4 = .ok (.aload_n 0, 1) := by decide +kernel
theorem dX4_init_5 : decode cX4_init 5 = .ok (.new 7, 3) := by decide +kernel
theorem dX4_init_8 : decode cX4_init 8 = .ok (.dup, 1) := by decide +kernel
theorem dX4_init_9 : decode cX4_init 9 = .ok (.invokespecial 9, 3) := by decide +kernel
theorem dX4_init_12 : decode cX4_init 12 = .ok (.putfield 10, 3) := by decide +kernel
theorem dX4_init_15 : decode cX4_init 15 = .ok (.aload_n 0, 1) := by decide +kernel
theorem dX4_init_16 : decode cX4_init 16 = .ok (.new 16, 3) := by decide +kernel
theorem dX4_init_19 : decode cX4_init 19 = .ok (.dup, 1) := by decide +kernel
theorem dX4_init_20 : decode cX4_init 20 = .ok (.invokespecial 18, 3) := by decide +kernel
theorem dX4_init_23 : decode cX4_init 23 = .ok (.putfield 19, 3) := by decide +kernel
theorem dX4_init_26 : decode cX4_init 26 = .ok (.aload_n 0, 1) := by decide +kernel
theorem dX4_init_27 : decode cX4_init 27 = .ok (.new 23, 3) := by decide +kernel
theorem dX4_init_30 : decode cX4_init 30 = .ok (.dup, 1) := by decide +kernel
theorem dX4_init_31 : decode cX4_init 31 = .ok (.invokespecial 25, 3) := by decide +kernel
theorem dX4_init_34 : decode cX4_init 34 = .ok (.putfield 26, 3) := by decide +kernel
theorem dX4_init_37 : decode cX4_init 37 = .ok (.return_, 1) := by decide +kernel
set_option maxRecDepth 20000 in
theorem ggX4_adds_X2_mark : GoodIn wsX4_adds wsX2_mark := goodIn_r _ [8, 9, 10, 11, 12, 13, 14, 58, 59] (by decide +kernel) (by decide +kernel)
set_option maxRecDepth 20000 in
theorem gX4_adds_X2_mark : GoodIn wsX4_adds (wsV RX4 34 RX2 yX2_mark wsX2_mark) := goodIn_app (goodIn_of _ (by decide +kernel)) ggX4_adds_X2_mark
set_option maxRecDepth 20000 in
theorem ggX4_adds_X1_join : GoodIn wsX4_adds wsX1_join := goodIn_r _ [19, 20, 21, 22, 18, 23, 24, 25, 26, 27, 28, 29, 30, 55, 56, 57] (by decide +kernel) (by decide +kernel)
set_option maxRecDepth 20000 in
theorem gX4_adds_X1_join : GoodIn wsX4_adds (wsV RX4 38 RX1 yX1_join wsX1_join) := goodIn_app (goodIn_of _ (by decide +kernel)) ggX4_adds_X1_join
set_option maxRecDepth 20000 in
theorem ggX4_adds_X4_changed : GoodIn wsX4_adds wsX4_changed := goodIn_r _ [34, 1, 35, 36, 25, 37, 38, 39, 40, 7, 41, 10, 9, 11, 12, 13, 14, 42, 43, 44, 45, 46, 47, 48, 49, 50, 51, 52, 53, 54, 58, 59] (by decide +kernel) (by decide +kernel)
set_option maxRecDepth 20000 in
theorem gX4_adds_X4_changed : GoodIn wsX4_adds (wsV RX4 42 RX4 yX4_changed wsX4_changed) := goodIn_app (goodIn_of _ (by decide +kernel)) ggX4_adds_X4_changed
theorem dX4_adds_0 : decode cX4_adds 0 = .ok (.aload_n 0, 1) := by decide +kernel
theorem dX4_adds_1 : decode cX4_adds 1 = .ok (.getfield 19, 3) := by decide +kernel
theorem dX4_adds_4 : decode cX4_adds 4 = .ok (.aload_n 0, 1) := by decide +kernel
theorem dX4_adds_5 : decode cX4_adds 5 = .ok (.getfield 10, 3) := by decide +kernel
theorem dX4_adds_8 : decode cX4_adds 8 = .ok (.getfield 30, 3) := by decide +kernel
theorem dX4_adds_11 : decode cX4_adds 11 = .ok (.invokevirtual 34, 3) := by decide +kernel
theorem dX4_adds_14 : decode cX4_adds 14 = .ok (.aload_n 0, 1) := by decide +kernel
theorem dX4_adds_15 : decode cX4_adds 15 = .ok (.aload_n 0, 1) := by decide +kernel
theorem dX4_adds_16 : decode cX4_adds 16 = .ok (.getfield 10, 3) := by decide +kernel
theorem dX4_adds_19 : decode cX4_adds 19 = .ok (.iload_n 1, 1) := by decide +kernel
theorem dX4_adds_20 : decode cX4_adds 20 = .ok (.iload_n 2, 1) := by decide +kernel
theorem dX4_adds_21 : decode cX4_adds 21 = .ok (.iload_n 3, 1) := by decide +kernel
theorem dX4_adds_22 : decode cX4_adds 22 = .ok (.iload 4, 2) := by decide +kernel
theorem dX4_adds_24 : decode cX4_adds 24 = .ok (.invokevirtual 38, 3) := by decide +kernel
theorem dX4_adds_27 : decode cX4_adds 27 = .ok (.invokevirtual 42, 3) := by decide +kernel
theorem dX4_adds_30 : decode cX4_adds 30 = .ok (.ireturn, 1) := by decide +kernel
set_option maxRecDepth 20000 in
theorem ggX4_own_X2_mark : GoodIn wsX4_own wsX2_mark := goodIn_r _ [8, 9, 10, 11, 12, 13, 14, 58, 59] (by decide +kernel) (by decide +kernel)
set_option maxRecDepth 20000 in
theorem gX4_own_X2_mark : GoodIn wsX4_own (wsV RX4 34 RX2 yX2_mark wsX2_mark) := goodIn_app (goodIn_of _ (by decide +kernel)) ggX4_own_X2_mark
set_option maxRecDepth 20000 in
theorem ggX4_own_X1_placeOwn : GoodIn wsX4_own wsX1_placeOwn := goodIn_r _ [19, 20, 21, 22, 18, 23, 24, 25, 26, 27, 28, 29, 30, 55, 56, 57] (by decide +kernel) (by decide +kernel)
set_option maxRecDepth 20000 in
theorem gX4_own_X1_placeOwn : GoodIn wsX4_own (wsV RX4 46 RX1 yX1_placeOwn wsX1_placeOwn) := goodIn_app (goodIn_of _ (by decide +kernel)) ggX4_own_X1_placeOwn
set_option maxRecDepth 20000 in
theorem ggX4_own_X4_changed : GoodIn wsX4_own wsX4_changed := goodIn_r _ [34, 1, 35, 36, 25, 37, 38, 39, 40, 7, 41, 10, 9, 11, 12, 13, 14, 42, 43, 44, 45, 46, 47, 48, 49, 50, 51, 52, 53, 54, 58, 59] (by decide +kernel) (by decide +kernel)
set_option maxRecDepth 20000 in
theorem gX4_own_X4_changed : GoodIn wsX4_own (wsV RX4 42 RX4 yX4_changed wsX4_changed) := goodIn_app (goodIn_of _ (by decide +kernel)) ggX4_own_X4_changed
theorem dX4_own_0 : decode cX4_own 0 = .ok (.aload_n 0, 1) := by decide +kernel
theorem dX4_own_1 : decode cX4_own 1 = .ok (.getfield 19, 3) := by decide +kernel
theorem dX4_own_4 : decode cX4_own 4 = .ok (.aload_n 0, 1) := by decide +kernel
theorem dX4_own_5 : decode cX4_own 5 = .ok (.getfield 10, 3) := by decide +kernel
theorem dX4_own_8 : decode cX4_own 8 = .ok (.getfield 30, 3) := by decide +kernel
theorem dX4_own_11 : decode cX4_own 11 = .ok (.invokevirtual 34, 3) := by decide +kernel
theorem dX4_own_14 : decode cX4_own 14 = .ok (.aload_n 0, 1) := by decide +kernel
theorem dX4_own_15 : decode cX4_own 15 = .ok (.aload_n 0, 1) := by decide +kernel
theorem dX4_own_16 : decode cX4_own 16 = .ok (.getfield 10, 3) := by decide +kernel
theorem dX4_own_19 : decode cX4_own 19 = .ok (.iload_n 1, 1) := by decide +kernel
theorem dX4_own_20 : decode cX4_own 20 = .ok (.iload_n 2, 1) := by decide +kernel
theorem dX4_own_21 : decode cX4_own 21 = .ok (.iload_n 3, 1) := by decide +kernel
theorem dX4_own_22 : decode cX4_own 22 = .ok (.iload 4, 2) := by decide +kernel
theorem dX4_own_24 : decode cX4_own 24 = .ok (.invokevirtual 46, 3) := by decide +kernel
theorem dX4_own_27 : decode cX4_own 27 = .ok (.invokevirtual 42, 3) := by decide +kernel
theorem dX4_own_30 : decode cX4_own 30 = .ok (.ireturn, 1) := by decide +kernel
set_option maxRecDepth 20000 in
theorem ggX4_drops_X2_mark : GoodIn wsX4_drops wsX2_mark := goodIn_r _ [8, 9, 10, 11, 12, 13, 14, 54, 55] (by decide +kernel) (by decide +kernel)
set_option maxRecDepth 20000 in
theorem gX4_drops_X2_mark : GoodIn wsX4_drops (wsV RX4 34 RX2 yX2_mark wsX2_mark) := goodIn_app (goodIn_of _ (by decide +kernel)) ggX4_drops_X2_mark
set_option maxRecDepth 20000 in
theorem ggX4_drops_X1_leave : GoodIn wsX4_drops wsX1_leave := goodIn_r _ [19, 20, 21, 12, 13, 14, 22, 23, 24, 18, 25, 51, 52, 53] (by decide +kernel) (by decide +kernel)
set_option maxRecDepth 20000 in
theorem gX4_drops_X1_leave : GoodIn wsX4_drops (wsV RX4 49 RX1 yX1_leave wsX1_leave) := goodIn_app (goodIn_of _ (by decide +kernel)) ggX4_drops_X1_leave
set_option maxRecDepth 20000 in
theorem ggX4_drops_X4_changed : GoodIn wsX4_drops wsX4_changed := goodIn_r _ [30, 1, 31, 32, 29, 33, 34, 35, 36, 7, 37, 10, 9, 11, 12, 13, 14, 38, 39, 40, 41, 42, 43, 44, 45, 46, 47, 48, 49, 50, 54, 55] (by decide +kernel) (by decide +kernel)
set_option maxRecDepth 20000 in
theorem gX4_drops_X4_changed : GoodIn wsX4_drops (wsV RX4 42 RX4 yX4_changed wsX4_changed) := goodIn_app (goodIn_of _ (by decide +kernel)) ggX4_drops_X4_changed
theorem dX4_drops_0 : decode cX4_drops 0 = .ok (.aload_n 0, 1) := by decide +kernel
theorem dX4_drops_1 : decode cX4_drops 1 = .ok (.getfield 19, 3) := by decide +kernel
theorem dX4_drops_4 : decode cX4_drops 4 = .ok (.aload_n 0, 1) := by decide +kernel
theorem dX4_drops_5 : decode cX4_drops 5 = .ok (.getfield 10, 3) := by decide +kernel
theorem dX4_drops_8 : decode cX4_drops 8 = .ok (.getfield 30, 3) := by decide +kernel
theorem dX4_drops_11 : decode cX4_drops 11 = .ok (.invokevirtual 34, 3) := by decide +kernel
theorem dX4_drops_14 : decode cX4_drops 14 = .ok (.aload_n 0, 1) := by decide +kernel
theorem dX4_drops_15 : decode cX4_drops 15 = .ok (.aload_n 0, 1) := by decide +kernel
theorem dX4_drops_16 : decode cX4_drops 16 = .ok (.getfield 10, 3) := by decide +kernel
theorem dX4_drops_19 : decode cX4_drops 19 = .ok (.iload_n 1, 1) := by decide +kernel
theorem dX4_drops_20 : decode cX4_drops 20 = .ok (.invokevirtual 49, 3) := by decide +kernel
theorem dX4_drops_23 : decode cX4_drops 23 = .ok (.invokevirtual 42, 3) := by decide +kernel
theorem dX4_drops_26 : decode cX4_drops 26 = .ok (.ireturn, 1) := by decide +kernel
set_option maxRecDepth 20000 in
theorem ggX4_veers_X2_mark : GoodIn wsX4_veers wsX2_mark := goodIn_r _ [8, 9, 10, 11, 12, 13, 14, 55, 56] (by decide +kernel) (by decide +kernel)
set_option maxRecDepth 20000 in
theorem gX4_veers_X2_mark : GoodIn wsX4_veers (wsV RX4 34 RX2 yX2_mark wsX2_mark) := goodIn_app (goodIn_of _ (by decide +kernel)) ggX4_veers_X2_mark
set_option maxRecDepth 20000 in
theorem ggX4_veers_X1_steer : GoodIn wsX4_veers wsX1_steer := goodIn_r _ [19, 20, 21, 22, 23, 18, 24, 25, 26, 27, 52, 53, 54] (by decide +kernel) (by decide +kernel)
set_option maxRecDepth 20000 in
theorem gX4_veers_X1_steer : GoodIn wsX4_veers (wsV RX4 52 RX1 yX1_steer wsX1_steer) := goodIn_app (goodIn_of _ (by decide +kernel)) ggX4_veers_X1_steer
set_option maxRecDepth 20000 in
theorem ggX4_veers_X4_changed : GoodIn wsX4_veers wsX4_changed := goodIn_r _ [31, 1, 32, 33, 26, 34, 35, 36, 37, 7, 38, 10, 9, 11, 12, 13, 14, 39, 40, 41, 42, 43, 44, 45, 46, 47, 48, 49, 50, 51, 55, 56] (by decide +kernel) (by decide +kernel)
set_option maxRecDepth 20000 in
theorem gX4_veers_X4_changed : GoodIn wsX4_veers (wsV RX4 42 RX4 yX4_changed wsX4_changed) := goodIn_app (goodIn_of _ (by decide +kernel)) ggX4_veers_X4_changed
theorem dX4_veers_0 : decode cX4_veers 0 = .ok (.aload_n 0, 1) := by decide +kernel
theorem dX4_veers_1 : decode cX4_veers 1 = .ok (.getfield 19, 3) := by decide +kernel
theorem dX4_veers_4 : decode cX4_veers 4 = .ok (.aload_n 0, 1) := by decide +kernel
theorem dX4_veers_5 : decode cX4_veers 5 = .ok (.getfield 10, 3) := by decide +kernel
theorem dX4_veers_8 : decode cX4_veers 8 = .ok (.getfield 30, 3) := by decide +kernel
theorem dX4_veers_11 : decode cX4_veers 11 = .ok (.invokevirtual 34, 3) := by decide +kernel
theorem dX4_veers_14 : decode cX4_veers 14 = .ok (.aload_n 0, 1) := by decide +kernel
theorem dX4_veers_15 : decode cX4_veers 15 = .ok (.aload_n 0, 1) := by decide +kernel
theorem dX4_veers_16 : decode cX4_veers 16 = .ok (.getfield 10, 3) := by decide +kernel
theorem dX4_veers_19 : decode cX4_veers 19 = .ok (.iload_n 1, 1) := by decide +kernel
theorem dX4_veers_20 : decode cX4_veers 20 = .ok (.iload_n 2, 1) := by decide +kernel
theorem dX4_veers_21 : decode cX4_veers 21 = .ok (.iload_n 3, 1) := by decide +kernel
theorem dX4_veers_22 : decode cX4_veers 22 = .ok (.invokevirtual 52, 3) := by decide +kernel
theorem dX4_veers_25 : decode cX4_veers 25 = .ok (.invokevirtual 42, 3) := by decide +kernel
theorem dX4_veers_28 : decode cX4_veers 28 = .ok (.ireturn, 1) := by decide +kernel
set_option maxRecDepth 20000 in
theorem ggX4_sets_X2_mark : GoodIn wsX4_sets wsX2_mark := goodIn_r _ [8, 9, 10, 11, 12, 13, 14, 49, 50] (by decide +kernel) (by decide +kernel)
set_option maxRecDepth 20000 in
theorem gX4_sets_X2_mark : GoodIn wsX4_sets (wsV RX4 34 RX2 yX2_mark wsX2_mark) := goodIn_app (goodIn_of _ (by decide +kernel)) ggX4_sets_X2_mark
set_option maxRecDepth 20000 in
theorem ggX4_sets_X1_setRule : GoodIn wsX4_sets wsX1_setRule := goodIn_r _ [19, 20, 46, 47, 48] (by decide +kernel) (by decide +kernel)
set_option maxRecDepth 20000 in
theorem gX4_sets_X1_setRule : GoodIn wsX4_sets (wsV RX4 56 RX1 yX1_setRule wsX1_setRule) := goodIn_app (goodIn_of _ (by decide +kernel)) ggX4_sets_X1_setRule
set_option maxRecDepth 20000 in
theorem ggX4_sets_X4_changed : GoodIn wsX4_sets wsX4_changed := goodIn_r _ [25, 1, 26, 27, 24, 28, 29, 30, 31, 7, 32, 10, 9, 11, 12, 13, 14, 33, 34, 35, 36, 37, 38, 39, 40, 41, 42, 43, 44, 45, 49, 50] (by decide +kernel) (by decide +kernel)
set_option maxRecDepth 20000 in
theorem gX4_sets_X4_changed : GoodIn wsX4_sets (wsV RX4 42 RX4 yX4_changed wsX4_changed) := goodIn_app (goodIn_of _ (by decide +kernel)) ggX4_sets_X4_changed
theorem dX4_sets_0 : decode cX4_sets 0 = .ok (.aload_n 0, 1) := by decide +kernel
theorem dX4_sets_1 : decode cX4_sets 1 = .ok (.getfield 19, 3) := by decide +kernel
theorem dX4_sets_4 : decode cX4_sets 4 = .ok (.aload_n 0, 1) := by decide +kernel
theorem dX4_sets_5 : decode cX4_sets 5 = .ok (.getfield 10, 3) := by decide +kernel
theorem dX4_sets_8 : decode cX4_sets 8 = .ok (.getfield 30, 3) := by decide +kernel
theorem dX4_sets_11 : decode cX4_sets 11 = .ok (.invokevirtual 34, 3) := by decide +kernel
theorem dX4_sets_14 : decode cX4_sets 14 = .ok (.aload_n 0, 1) := by decide +kernel
theorem dX4_sets_15 : decode cX4_sets 15 = .ok (.aload_n 0, 1) := by decide +kernel
theorem dX4_sets_16 : decode cX4_sets 16 = .ok (.getfield 10, 3) := by decide +kernel
theorem dX4_sets_19 : decode cX4_sets 19 = .ok (.iload_n 1, 1) := by decide +kernel
theorem dX4_sets_20 : decode cX4_sets 20 = .ok (.iload_n 2, 1) := by decide +kernel
theorem dX4_sets_21 : decode cX4_sets 21 = .ok (.invokevirtual 56, 3) := by decide +kernel
theorem dX4_sets_24 : decode cX4_sets 24 = .ok (.invokevirtual 42, 3) := by decide +kernel
theorem dX4_sets_27 : decode cX4_sets 27 = .ok (.ireturn, 1) := by decide +kernel
set_option maxRecDepth 20000 in
theorem ggX4_steps_X2_mark : GoodIn wsX4_steps wsX2_mark := goodIn_r _ [8, 9, 10, 11, 12, 13, 14, 120, 121] (by decide +kernel) (by decide +kernel)
set_option maxRecDepth 20000 in
theorem gX4_steps_X2_mark : GoodIn wsX4_steps (wsV RX4 34 RX2 yX2_mark wsX2_mark) := goodIn_app (goodIn_of _ (by decide +kernel)) ggX4_steps_X2_mark
set_option maxRecDepth 20000 in
theorem ggX4_steps_X1_goOn : GoodIn wsX4_steps wsX1_goOn := goodIn_r _ [19, 20, 21, 22, 23, 18, 24, 25, 26, 27, 28, 29, 30, 31, 32, 33, 34, 35, 36, 37, 38, 39, 40, 41, 42, 43, 44, 45, 46, 47, 48, 49, 50, 51, 52, 53, 54, 55, 56, 57, 58, 59, 60, 61, 62, 63, 64, 65, 66, 67, 68, 69, 70, 71, 72, 73, 74, 75, 76, 77, 78, 79, 80, 81, 82, 83, 84, 85, 86, 87, 88, 89, 90, 91, 117, 118, 119, 122, 123, 124, 125] (by decide +kernel) (by decide +kernel)
set_option maxRecDepth 20000 in
theorem gX4_steps_X1_goOn : GoodIn wsX4_steps (wsV RX4 60 RX1 yX1_goOn wsX1_goOn) := goodIn_app (goodIn_of _ (by decide +kernel)) ggX4_steps_X1_goOn
set_option maxRecDepth 20000 in
theorem ggX4_steps_X4_changed : GoodIn wsX4_steps wsX4_changed := goodIn_r _ [96, 1, 97, 98, 95, 99, 100, 101, 102, 7, 103, 10, 9, 11, 12, 13, 14, 104, 105, 106, 107, 108, 109, 110, 111, 112, 113, 114, 115, 116, 120, 121] (by decide +kernel) (by decide +kernel)
set_option maxRecDepth 20000 in
theorem gX4_steps_X4_changed : GoodIn wsX4_steps (wsV RX4 42 RX4 yX4_changed wsX4_changed) := goodIn_app (goodIn_of _ (by decide +kernel)) ggX4_steps_X4_changed
theorem dX4_steps_0 : decode cX4_steps 0 = .ok (.aload_n 0, 1) := by decide +kernel
theorem dX4_steps_1 : decode cX4_steps 1 = .ok (.getfield 19, 3) := by decide +kernel
theorem dX4_steps_4 : decode cX4_steps 4 = .ok (.aload_n 0, 1) := by decide +kernel
theorem dX4_steps_5 : decode cX4_steps 5 = .ok (.getfield 10, 3) := by decide +kernel
theorem dX4_steps_8 : decode cX4_steps 8 = .ok (.getfield 30, 3) := by decide +kernel
theorem dX4_steps_11 : decode cX4_steps 11 = .ok (.invokevirtual 34, 3) := by decide +kernel
theorem dX4_steps_14 : decode cX4_steps 14 = .ok (.aload_n 0, 1) := by decide +kernel
theorem dX4_steps_15 : decode cX4_steps 15 = .ok (.aload_n 0, 1) := by decide +kernel
theorem dX4_steps_16 : decode cX4_steps 16 = .ok (.getfield 10, 3) := by decide +kernel
theorem dX4_steps_19 : decode cX4_steps 19 = .ok (.iload_n 1, 1) := by decide +kernel
theorem dX4_steps_20 : decode cX4_steps 20 = .ok (.invokevirtual 60, 3) := by decide +kernel
theorem dX4_steps_23 : decode cX4_steps 23 = .ok (.invokevirtual 42, 3) := by decide +kernel
theorem dX4_steps_26 : decode cX4_steps 26 = .ok (.ireturn, 1) := by decide +kernel
set_option maxRecDepth 20000 in
theorem ggX4_looks_X2_mark : GoodIn wsX4_looks wsX2_mark := goodIn_r _ [8, 9, 10, 11, 12, 13, 14, 97, 98] (by decide +kernel) (by decide +kernel)
set_option maxRecDepth 20000 in
theorem gX4_looks_X2_mark : GoodIn wsX4_looks (wsV RX4 34 RX2 yX2_mark wsX2_mark) := goodIn_app (goodIn_of _ (by decide +kernel)) ggX4_looks_X2_mark
set_option maxRecDepth 20000 in
theorem ggX4_looks_X1_look : GoodIn wsX4_looks wsX1_look := goodIn_r _ [19, 20, 21, 22, 23, 18, 24, 25, 26, 27, 28, 29, 30, 31, 32, 33, 34, 35, 36, 37, 38, 39, 40, 41, 42, 43, 44, 45, 46, 47, 48, 49, 50, 51, 52, 53, 54, 55, 56, 57, 58, 59, 60, 61, 62, 63, 64, 94, 95, 96, 99, 100, 101, 102] (by decide +kernel) (by decide +kernel)
set_option maxRecDepth 20000 in
theorem gX4_looks_X1_look : GoodIn wsX4_looks (wsV RX4 63 RX1 yX1_look wsX1_look) := goodIn_app (goodIn_of _ (by decide +kernel)) ggX4_looks_X1_look
set_option maxRecDepth 20000 in
theorem ggX4_looks_X1_givenWay : GoodIn wsX4_looks wsX1_givenWay := goodIn_r _ [68, 20, 94, 95, 96] (by decide +kernel) (by decide +kernel)
set_option maxRecDepth 20000 in
theorem gX4_looks_X1_givenWay : GoodIn wsX4_looks (wsV RX4 66 RX1 yX1_givenWay wsX1_givenWay) := goodIn_app (goodIn_of _ (by decide +kernel)) ggX4_looks_X1_givenWay
set_option maxRecDepth 20000 in
theorem ggX4_looks_X4_changed : GoodIn wsX4_looks wsX4_changed := goodIn_r _ [73, 1, 74, 75, 72, 76, 77, 78, 79, 7, 80, 10, 9, 11, 12, 13, 14, 81, 82, 83, 84, 85, 86, 87, 88, 89, 90, 91, 92, 93, 97, 98] (by decide +kernel) (by decide +kernel)
set_option maxRecDepth 20000 in
theorem gX4_looks_X4_changed : GoodIn wsX4_looks (wsV RX4 42 RX4 yX4_changed wsX4_changed) := goodIn_app (goodIn_of _ (by decide +kernel)) ggX4_looks_X4_changed
theorem dX4_looks_0 : decode cX4_looks 0 = .ok (.aload_n 0, 1) := by decide +kernel
theorem dX4_looks_1 : decode cX4_looks 1 = .ok (.getfield 19, 3) := by decide +kernel
theorem dX4_looks_4 : decode cX4_looks 4 = .ok (.aload_n 0, 1) := by decide +kernel
theorem dX4_looks_5 : decode cX4_looks 5 = .ok (.getfield 10, 3) := by decide +kernel
theorem dX4_looks_8 : decode cX4_looks 8 = .ok (.getfield 30, 3) := by decide +kernel
theorem dX4_looks_11 : decode cX4_looks 11 = .ok (.invokevirtual 34, 3) := by decide +kernel
theorem dX4_looks_14 : decode cX4_looks 14 = .ok (.aload_n 0, 1) := by decide +kernel
theorem dX4_looks_15 : decode cX4_looks 15 = .ok (.getfield 10, 3) := by decide +kernel
theorem dX4_looks_18 : decode cX4_looks 18 = .ok (.invokevirtual 63, 3) := by decide +kernel
theorem dX4_looks_21 : decode cX4_looks 21 = .ok (.aload_n 0, 1) := by decide +kernel
theorem dX4_looks_22 : decode cX4_looks 22 = .ok (.aload_n 0, 1) := by decide +kernel
theorem dX4_looks_23 : decode cX4_looks 23 = .ok (.getfield 10, 3) := by decide +kernel
theorem dX4_looks_26 : decode cX4_looks 26 = .ok (.invokevirtual 66, 3) := by decide +kernel
theorem dX4_looks_29 : decode cX4_looks 29 = .ok (.invokevirtual 42, 3) := by decide +kernel
theorem dX4_looks_32 : decode cX4_looks 32 = .ok (.ireturn, 1) := by decide +kernel
set_option maxRecDepth 20000 in
theorem ggX4_obeys_X2_mark : GoodIn wsX4_obeys wsX2_mark := goodIn_r _ [8, 9, 10, 11, 12, 13, 14, 109, 110] (by decide +kernel) (by decide +kernel)
set_option maxRecDepth 20000 in
theorem gX4_obeys_X2_mark : GoodIn wsX4_obeys (wsV RX4 34 RX2 yX2_mark wsX2_mark) := goodIn_app (goodIn_of _ (by decide +kernel)) ggX4_obeys_X2_mark
set_option maxRecDepth 20000 in
theorem ggX4_obeys_X1_adviceFor : GoodIn wsX4_obeys wsX1_adviceFor := goodIn_r _ [19, 20, 21, 22, 23, 18, 24, 25, 26, 27, 28, 29, 30, 31, 32, 33, 34, 35, 36, 37, 38, 39, 40, 41, 42, 43, 44, 45, 46, 47, 48, 49, 50, 51, 52, 53, 54, 55, 56, 57, 58, 59, 60, 61, 62, 63, 64, 65, 66, 67, 68, 69, 70, 71, 72, 73, 74, 75, 76, 106, 107, 108, 111, 112, 113, 114] (by decide +kernel) (by decide +kernel)
set_option maxRecDepth 20000 in
theorem gX4_obeys_X1_adviceFor : GoodIn wsX4_obeys (wsV RX4 70 RX1 yX1_adviceFor wsX1_adviceFor) := goodIn_app (goodIn_of _ (by decide +kernel)) ggX4_obeys_X1_adviceFor
set_option maxRecDepth 20000 in
theorem ggX4_obeys_X1_follow : GoodIn wsX4_obeys wsX1_follow := goodIn_r _ [80, 20, 106, 107, 108] (by decide +kernel) (by decide +kernel)
set_option maxRecDepth 20000 in
theorem gX4_obeys_X1_follow : GoodIn wsX4_obeys (wsV RX4 73 RX1 yX1_follow wsX1_follow) := goodIn_app (goodIn_of _ (by decide +kernel)) ggX4_obeys_X1_follow
set_option maxRecDepth 20000 in
theorem ggX4_obeys_X4_changed : GoodIn wsX4_obeys wsX4_changed := goodIn_r _ [85, 1, 86, 87, 84, 88, 89, 90, 91, 7, 92, 10, 9, 11, 12, 13, 14, 93, 94, 95, 96, 97, 98, 99, 100, 101, 102, 103, 104, 105, 109, 110] (by decide +kernel) (by decide +kernel)
set_option maxRecDepth 20000 in
theorem gX4_obeys_X4_changed : GoodIn wsX4_obeys (wsV RX4 42 RX4 yX4_changed wsX4_changed) := goodIn_app (goodIn_of _ (by decide +kernel)) ggX4_obeys_X4_changed
theorem dX4_obeys_0 : decode cX4_obeys 0 = .ok (.aload_n 0, 1) := by decide +kernel
theorem dX4_obeys_1 : decode cX4_obeys 1 = .ok (.getfield 19, 3) := by decide +kernel
theorem dX4_obeys_4 : decode cX4_obeys 4 = .ok (.aload_n 0, 1) := by decide +kernel
theorem dX4_obeys_5 : decode cX4_obeys 5 = .ok (.getfield 10, 3) := by decide +kernel
theorem dX4_obeys_8 : decode cX4_obeys 8 = .ok (.getfield 30, 3) := by decide +kernel
theorem dX4_obeys_11 : decode cX4_obeys 11 = .ok (.invokevirtual 34, 3) := by decide +kernel
theorem dX4_obeys_14 : decode cX4_obeys 14 = .ok (.aload_n 0, 1) := by decide +kernel
theorem dX4_obeys_15 : decode cX4_obeys 15 = .ok (.aload_n 0, 1) := by decide +kernel
theorem dX4_obeys_16 : decode cX4_obeys 16 = .ok (.getfield 10, 3) := by decide +kernel
theorem dX4_obeys_19 : decode cX4_obeys 19 = .ok (.aload_n 0, 1) := by decide +kernel
theorem dX4_obeys_20 : decode cX4_obeys 20 = .ok (.getfield 10, 3) := by decide +kernel
theorem dX4_obeys_23 : decode cX4_obeys 23 = .ok (.iconst 0, 1) := by decide +kernel
theorem dX4_obeys_24 : decode cX4_obeys 24 = .ok (.invokevirtual 70, 3) := by decide +kernel
theorem dX4_obeys_27 : decode cX4_obeys 27 = .ok (.invokevirtual 73, 3) := by decide +kernel
theorem dX4_obeys_30 : decode cX4_obeys 30 = .ok (.invokevirtual 42, 3) := by decide +kernel
theorem dX4_obeys_33 : decode cX4_obeys 33 = .ok (.ireturn, 1) := by decide +kernel
set_option maxRecDepth 20000 in
theorem ggX4_of_X1_isShip : GoodIn wsX4_of wsX1_isShip := goodIn_r _ [6, 7, 36, 37, 38] (by decide +kernel) (by decide +kernel)
set_option maxRecDepth 20000 in
theorem gX4_of_X1_isShip : GoodIn wsX4_of (wsV RX4 76 RX1 yX1_isShip wsX1_isShip) := goodIn_app (goodIn_of _ (by decide +kernel)) ggX4_of_X1_isShip
set_option maxRecDepth 20000 in
theorem ggX4_of_X4_answered : GoodIn wsX4_of wsX4_answered := goodIn_r _ [12, 13, 14, 15, 30, 31, 32, 33, 34, 35] (by decide +kernel) (by decide +kernel)
set_option maxRecDepth 20000 in
theorem gX4_of_X4_answered : GoodIn wsX4_of (wsV RX4 80 RX4 yX4_answered wsX4_answered) := goodIn_app (goodIn_of _ (by decide +kernel)) ggX4_of_X4_answered
set_option maxRecDepth 20000 in
theorem ggX4_of_X1_partOf : GoodIn wsX4_of wsX1_partOf := goodIn_r _ [19, 7, 20, 21, 22, 5, 23, 24, 25, 26, 27, 28, 29, 36, 37, 38] (by decide +kernel) (by decide +kernel)
set_option maxRecDepth 20000 in
theorem gX4_of_X1_partOf : GoodIn wsX4_of (wsV RX4 83 RX1 yX1_partOf wsX1_partOf) := goodIn_app (goodIn_of _ (by decide +kernel)) ggX4_of_X1_partOf
theorem dX4_of_0 : decode cX4_of 0 = .ok (.aload_n 0, 1) := by decide +kernel
theorem dX4_of_1 : decode cX4_of 1 = .ok (.getfield 10, 3) := by decide +kernel
theorem dX4_of_4 : decode cX4_of 4 = .ok (.iload_n 1, 1) := by decide +kernel
theorem dX4_of_5 : decode cX4_of 5 = .ok (.invokevirtual 76, 3) := by decide +kernel
theorem dX4_of_8 : decode cX4_of 8 = .ok (.ifCond .eq 12, 3) := by decide +kernel
theorem dX4_of_11 : decode cX4_of 11 = .ok (.iload_n 2, 1) := by decide +kernel
theorem dX4_of_12 : decode cX4_of 12 = .ok (.ifCond .lt 8, 3) := by decide +kernel
theorem dX4_of_15 : decode cX4_of 15 = .ok (.iload_n 2, 1) := by decide +kernel
theorem dX4_of_16 : decode cX4_of 16 = .ok (.iconst 5, 1) := by decide +kernel
theorem dX4_of_17 : decode cX4_of 17 = .ok (.if_icmp .le 11, 3) := by decide +kernel
theorem dX4_of_20 : decode cX4_of 20 = .ok (.aload_n 0, 1) := by decide +kernel
theorem dX4_of_21 : decode cX4_of 21 = .ok (.sipush (-10002), 3) := by decide +kernel
theorem dX4_of_24 : decode cX4_of 24 = .ok (.invokevirtual 80, 3) := by decide +kernel
theorem dX4_of_27 : decode cX4_of 27 = .ok (.ireturn, 1) := by decide +kernel
theorem dX4_of_28 : decode cX4_of 28 = .ok (.aload_n 0, 1) := by decide +kernel
theorem dX4_of_29 : decode cX4_of 29 = .ok (.getfield 10, 3) := by decide +kernel
theorem dX4_of_32 : decode cX4_of 32 = .ok (.iload_n 1, 1) := by decide +kernel
theorem dX4_of_33 : decode cX4_of 33 = .ok (.iload_n 2, 1) := by decide +kernel
theorem dX4_of_34 : decode cX4_of 34 = .ok (.invokevirtual 83, 3) := by decide +kernel
theorem dX4_of_37 : decode cX4_of 37 = .ok (.ireturn, 1) := by decide +kernel
set_option maxRecDepth 20000 in
theorem ggX4_closest_X1_isPair : GoodIn wsX4_closest wsX1_isPair := goodIn_r _ [6, 7, 8, 9, 5, 10, 11, 56, 57, 58] (by decide +kernel) (by decide +kernel)
set_option maxRecDepth 20000 in
theorem gX4_closest_X1_isPair : GoodIn wsX4_closest (wsV RX4 86 RX1 yX1_isPair wsX1_isPair) := goodIn_app (goodIn_of _ (by decide +kernel)) ggX4_closest_X1_isPair
set_option maxRecDepth 20000 in
theorem ggX4_closest_X4_answered : GoodIn wsX4_closest wsX4_answered := goodIn_r _ [16, 17, 18, 19, 50, 51, 52, 53, 54, 55] (by decide +kernel) (by decide +kernel)
set_option maxRecDepth 20000 in
theorem gX4_closest_X4_answered : GoodIn wsX4_closest (wsV RX4 80 RX4 yX4_answered wsX4_answered) := goodIn_app (goodIn_of _ (by decide +kernel)) ggX4_closest_X4_answered
set_option maxRecDepth 20000 in
theorem ggX4_closest_X1_approachOf : GoodIn wsX4_closest wsX1_approachOf := goodIn_r _ [23, 11, 24, 25, 26, 27, 5, 28, 29, 30, 31, 32, 33, 34, 56, 57, 58, 59, 60, 61, 62] (by decide +kernel) (by decide +kernel)
set_option maxRecDepth 20000 in
theorem gX4_closest_X1_approachOf : GoodIn wsX4_closest (wsV RX4 90 RX1 yX1_approachOf wsX1_approachOf) := goodIn_app (goodIn_of _ (by decide +kernel)) ggX4_closest_X1_approachOf
set_option maxRecDepth 20000 in
theorem ggX4_closest_X0_part : GoodIn wsX4_closest wsX0_part := goodIn_r _ [39, 40, 41, 42, 43, 44, 45, 38, 46, 47, 48, 49, 59, 60, 61, 62] (by decide +kernel) (by decide +kernel)
set_option maxRecDepth 20000 in
theorem gX4_closest_X0_part : GoodIn wsX4_closest (wsV RX4 94 RX0 yX0_part wsX0_part) := goodIn_app (goodIn_of _ (by decide +kernel)) ggX4_closest_X0_part
theorem dX4_closest_0 : decode cX4_closest 0 = .ok (.aload_n 0, 1) := by decide +kernel
theorem dX4_closest_1 : decode cX4_closest 1 = .ok (.getfield 10, 3) := by decide +kernel
theorem dX4_closest_4 : decode cX4_closest 4 = .ok (.iload_n 1, 1) := by decide +kernel
theorem dX4_closest_5 : decode cX4_closest 5 = .ok (.iload_n 2, 1) := by decide +kernel
theorem dX4_closest_6 : decode cX4_closest 6 = .ok (.invokevirtual 86, 3) := by decide +kernel
theorem dX4_closest_9 : decode cX4_closest 9 = .ok (.ifCond .eq 12, 3) := by decide +kernel
theorem dX4_closest_12 : decode cX4_closest 12 = .ok (.iload_n 3, 1) := by decide +kernel
theorem dX4_closest_13 : decode cX4_closest 13 = .ok (.ifCond .lt 8, 3) := by decide +kernel
theorem dX4_closest_16 : decode cX4_closest 16 = .ok (.iload_n 3, 1) := by decide +kernel
theorem dX4_closest_17 : decode cX4_closest 17 = .ok (.iconst 3, 1) := by decide +kernel
theorem dX4_closest_18 : decode cX4_closest 18 = .ok (.if_icmp .le 12, 3) := by decide +kernel
theorem dX4_closest_21 : decode cX4_closest 21 = .ok (.aload_n 0, 1) := by decide +kernel
theorem dX4_closest_22 : decode cX4_closest 22 = .ok (.sipush (-10002), 3) := by decide +kernel
theorem dX4_closest_25 : decode cX4_closest 25 = .ok (.invokevirtual 80, 3) := by decide +kernel
theorem dX4_closest_28 : decode cX4_closest 28 = .ok (.i2l, 1) := by decide +kernel
theorem dX4_closest_29 : decode cX4_closest 29 = .ok (.lreturn, 1) := by decide +kernel
theorem dX4_closest_30 : decode cX4_closest 30 = .ok (.aload_n 0, 1) := by decide +kernel
theorem dX4_closest_31 : decode cX4_closest 31 = .ok (.getfield 10, 3) := by decide +kernel
theorem dX4_closest_34 : decode cX4_closest 34 = .ok (.iload_n 1, 1) := by decide +kernel
theorem dX4_closest_35 : decode cX4_closest 35 = .ok (.iload_n 2, 1) := by decide +kernel
theorem dX4_closest_36 : decode cX4_closest 36 = .ok (.invokevirtual 90, 3) := by decide +kernel
theorem dX4_closest_39 : decode cX4_closest 39 = .ok (.iload_n 3, 1) := by decide +kernel
theorem dX4_closest_40 : decode cX4_closest 40 = .ok (.invokevirtual 94, 3) := by decide +kernel
theorem dX4_closest_43 : decode cX4_closest 43 = .ok (.lreturn, 1) := by decide +kernel
set_option maxRecDepth 20000 in
theorem ggX4_risk_X1_isPair : GoodIn wsX4_risk wsX1_isPair := goodIn_r _ [6, 7, 8, 9, 5, 10, 11, 50, 51, 52] (by decide +kernel) (by decide +kernel)
set_option maxRecDepth 20000 in
theorem gX4_risk_X1_isPair : GoodIn wsX4_risk (wsV RX4 86 RX1 yX1_isPair wsX1_isPair) := goodIn_app (goodIn_of _ (by decide +kernel)) ggX4_risk_X1_isPair
set_option maxRecDepth 20000 in
theorem ggX4_risk_X4_answered : GoodIn wsX4_risk wsX4_answered := goodIn_r _ [16, 17, 18, 19, 44, 45, 46, 47, 48, 49] (by decide +kernel) (by decide +kernel)
set_option maxRecDepth 20000 in
theorem gX4_risk_X4_answered : GoodIn wsX4_risk (wsV RX4 80 RX4 yX4_answered wsX4_answered) := goodIn_app (goodIn_of _ (by decide +kernel)) ggX4_risk_X4_answered
set_option maxRecDepth 20000 in
theorem ggX4_risk_X1_haveRisk : GoodIn wsX4_risk wsX1_haveRisk := goodIn_r _ [23, 11, 24, 25, 26, 27, 5, 28, 29, 30, 31, 32, 33, 34, 35, 36, 37, 38, 39, 40, 41, 42, 43, 50, 51, 52, 53, 54, 55, 56] (by decide +kernel) (by decide +kernel)
set_option maxRecDepth 20000 in
theorem gX4_risk_X1_haveRisk : GoodIn wsX4_risk (wsV RX4 100 RX1 yX1_haveRisk wsX1_haveRisk) := goodIn_app (goodIn_of _ (by decide +kernel)) ggX4_risk_X1_haveRisk
theorem dX4_risk_0 : decode cX4_risk 0 = .ok (.aload_n 0, 1) := by decide +kernel
theorem dX4_risk_1 : decode cX4_risk 1 = .ok (.getfield 10, 3) := by decide +kernel
theorem dX4_risk_4 : decode cX4_risk 4 = .ok (.iload_n 1, 1) := by decide +kernel
theorem dX4_risk_5 : decode cX4_risk 5 = .ok (.iload_n 2, 1) := by decide +kernel
theorem dX4_risk_6 : decode cX4_risk 6 = .ok (.invokevirtual 86, 3) := by decide +kernel
theorem dX4_risk_9 : decode cX4_risk 9 = .ok (.ifCond .ne 11, 3) := by decide +kernel
theorem dX4_risk_12 : decode cX4_risk 12 = .ok (.aload_n 0, 1) := by decide +kernel
theorem dX4_risk_13 : decode cX4_risk 13 = .ok (.sipush (-10002), 3) := by decide +kernel
theorem dX4_risk_16 : decode cX4_risk 16 = .ok (.invokevirtual 80, 3) := by decide +kernel
theorem dX4_risk_19 : decode cX4_risk 19 = .ok (.ireturn, 1) := by decide +kernel
theorem dX4_risk_20 : decode cX4_risk 20 = .ok (.aload_n 0, 1) := by decide +kernel
theorem dX4_risk_21 : decode cX4_risk 21 = .ok (.getfield 10, 3) := by decide +kernel
theorem dX4_risk_24 : decode cX4_risk 24 = .ok (.iload_n 1, 1) := by decide +kernel
theorem dX4_risk_25 : decode cX4_risk 25 = .ok (.iload_n 2, 1) := by decide +kernel
theorem dX4_risk_26 : decode cX4_risk 26 = .ok (.invokevirtual 100, 3) := by decide +kernel
theorem dX4_risk_29 : decode cX4_risk 29 = .ok (.ifCond .eq 7, 3) := by decide +kernel
theorem dX4_risk_32 : decode cX4_risk 32 = .ok (.iconst 1, 1) := by decide +kernel
theorem dX4_risk_33 : decode cX4_risk 33 = .ok (.goto 4, 3) := by decide +kernel
theorem dX4_risk_36 : decode cX4_risk 36 = .ok (.iconst 0, 1) := by decide +kernel
theorem dX4_risk_37 : decode cX4_risk 37 = .ok (.ireturn, 1) := by decide +kernel
set_option maxRecDepth 20000 in
theorem ggX4_sector_X1_isPair : GoodIn wsX4_sector wsX1_isPair := goodIn_r _ [6, 7, 8, 9, 5, 10, 11, 36, 37, 38] (by decide +kernel) (by decide +kernel)
set_option maxRecDepth 20000 in
theorem gX4_sector_X1_isPair : GoodIn wsX4_sector (wsV RX4 86 RX1 yX1_isPair wsX1_isPair) := goodIn_app (goodIn_of _ (by decide +kernel)) ggX4_sector_X1_isPair
set_option maxRecDepth 20000 in
theorem ggX4_sector_X4_answered : GoodIn wsX4_sector wsX4_answered := goodIn_r _ [16, 17, 18, 19, 30, 31, 32, 33, 34, 35] (by decide +kernel) (by decide +kernel)
set_option maxRecDepth 20000 in
theorem gX4_sector_X4_answered : GoodIn wsX4_sector (wsV RX4 80 RX4 yX4_answered wsX4_answered) := goodIn_app (goodIn_of _ (by decide +kernel)) ggX4_sector_X4_answered
set_option maxRecDepth 20000 in
theorem ggX4_sector_X1_sectorOf : GoodIn wsX4_sector wsX1_sectorOf := goodIn_r _ [23, 24, 11, 25, 26, 27, 28, 29, 36, 37, 38] (by decide +kernel) (by decide +kernel)
set_option maxRecDepth 20000 in
theorem gX4_sector_X1_sectorOf : GoodIn wsX4_sector (wsV RX4 103 RX1 yX1_sectorOf wsX1_sectorOf) := goodIn_app (goodIn_of _ (by decide +kernel)) ggX4_sector_X1_sectorOf
theorem dX4_sector_0 : decode cX4_sector 0 = .ok (.aload_n 0, 1) := by decide +kernel
theorem dX4_sector_1 : decode cX4_sector 1 = .ok (.getfield 10, 3) := by decide +kernel
theorem dX4_sector_4 : decode cX4_sector 4 = .ok (.iload_n 1, 1) := by decide +kernel
theorem dX4_sector_5 : decode cX4_sector 5 = .ok (.iload_n 2, 1) := by decide +kernel
theorem dX4_sector_6 : decode cX4_sector 6 = .ok (.invokevirtual 86, 3) := by decide +kernel
theorem dX4_sector_9 : decode cX4_sector 9 = .ok (.ifCond .ne 11, 3) := by decide +kernel
theorem dX4_sector_12 : decode cX4_sector 12 = .ok (.aload_n 0, 1) := by decide +kernel
theorem dX4_sector_13 : decode cX4_sector 13 = .ok (.sipush (-10002), 3) := by decide +kernel
theorem dX4_sector_16 : decode cX4_sector 16 = .ok (.invokevirtual 80, 3) := by decide +kernel
theorem dX4_sector_19 : decode cX4_sector 19 = .ok (.ireturn, 1) := by decide +kernel
theorem dX4_sector_20 : decode cX4_sector 20 = .ok (.aload_n 0, 1) := by decide +kernel
theorem dX4_sector_21 : decode cX4_sector 21 = .ok (.getfield 10, 3) := by decide +kernel
theorem dX4_sector_24 : decode cX4_sector 24 = .ok (.iload_n 1, 1) := by decide +kernel
theorem dX4_sector_25 : decode cX4_sector 25 = .ok (.iload_n 2, 1) := by decide +kernel
theorem dX4_sector_26 : decode cX4_sector 26 = .ok (.invokevirtual 103, 3) := by decide +kernel
theorem dX4_sector_29 : decode cX4_sector 29 = .ok (.ireturn, 1) := by decide +kernel
set_option maxRecDepth 20000 in
theorem ggX4_table_X1_isPair : GoodIn wsX4_table wsX1_isPair := goodIn_r _ [6, 7, 8, 9, 5, 10, 11, 62, 63, 64] (by decide +kernel) (by decide +kernel)
set_option maxRecDepth 20000 in
theorem gX4_table_X1_isPair : GoodIn wsX4_table (wsV RX4 86 RX1 yX1_isPair wsX1_isPair) := goodIn_app (goodIn_of _ (by decide +kernel)) ggX4_table_X1_isPair
set_option maxRecDepth 20000 in
theorem ggX4_table_X4_answered : GoodIn wsX4_table wsX4_answered := goodIn_r _ [16, 17, 18, 19, 56, 57, 58, 59, 60, 61] (by decide +kernel) (by decide +kernel)
set_option maxRecDepth 20000 in
theorem gX4_table_X4_answered : GoodIn wsX4_table (wsV RX4 80 RX4 yX4_answered wsX4_answered) := goodIn_app (goodIn_of _ (by decide +kernel)) ggX4_table_X4_answered
set_option maxRecDepth 20000 in
theorem ggX4_table_X1_tableOf : GoodIn wsX4_table wsX1_tableOf := goodIn_r _ [23, 24, 25, 26, 5, 27, 11, 28, 29, 30, 31, 32, 33, 34, 35, 36, 37, 38, 39, 40, 41, 42, 43, 44, 45, 46, 47, 48, 49, 50, 51, 52, 53, 54, 55, 62, 63, 64, 65, 66, 67, 68] (by decide +kernel) (by decide +kernel)
set_option maxRecDepth 20000 in
theorem gX4_table_X1_tableOf : GoodIn wsX4_table (wsV RX4 106 RX1 yX1_tableOf wsX1_tableOf) := goodIn_app (goodIn_of _ (by decide +kernel)) ggX4_table_X1_tableOf
theorem dX4_table_0 : decode cX4_table 0 = .ok (.aload_n 0, 1) := by decide +kernel
theorem dX4_table_1 : decode cX4_table 1 = .ok (.getfield 10, 3) := by decide +kernel
theorem dX4_table_4 : decode cX4_table 4 = .ok (.iload_n 1, 1) := by decide +kernel
theorem dX4_table_5 : decode cX4_table 5 = .ok (.iload_n 2, 1) := by decide +kernel
theorem dX4_table_6 : decode cX4_table 6 = .ok (.invokevirtual 86, 3) := by decide +kernel
theorem dX4_table_9 : decode cX4_table 9 = .ok (.ifCond .ne 11, 3) := by decide +kernel
theorem dX4_table_12 : decode cX4_table 12 = .ok (.aload_n 0, 1) := by decide +kernel
theorem dX4_table_13 : decode cX4_table 13 = .ok (.sipush (-10002), 3) := by decide +kernel
theorem dX4_table_16 : decode cX4_table 16 = .ok (.invokevirtual 80, 3) := by decide +kernel
theorem dX4_table_19 : decode cX4_table 19 = .ok (.ireturn, 1) := by decide +kernel
theorem dX4_table_20 : decode cX4_table 20 = .ok (.aload_n 0, 1) := by decide +kernel
theorem dX4_table_21 : decode cX4_table 21 = .ok (.getfield 10, 3) := by decide +kernel
theorem dX4_table_24 : decode cX4_table 24 = .ok (.iload_n 1, 1) := by decide +kernel
theorem dX4_table_25 : decode cX4_table 25 = .ok (.iload_n 2, 1) := by decide +kernel
theorem dX4_table_26 : decode cX4_table 26 = .ok (.invokevirtual 106, 3) := by decide +kernel
theorem dX4_table_29 : decode cX4_table 29 = .ok (.ireturn, 1) := by decide +kernel
set_option maxRecDepth 20000 in
theorem ggX4_duty_X1_isOther : GoodIn wsX4_duty wsX1_isOther := goodIn_r _ [6, 7, 26, 27, 28] (by decide +kernel) (by decide +kernel)
set_option maxRecDepth 20000 in
theorem gX4_duty_X1_isOther : GoodIn wsX4_duty (wsV RX4 109 RX1 yX1_isOther wsX1_isOther) := goodIn_app (goodIn_of _ (by decide +kernel)) ggX4_duty_X1_isOther
set_option maxRecDepth 20000 in
theorem ggX4_duty_X4_answered : GoodIn wsX4_duty wsX4_answered := goodIn_r _ [12, 13, 14, 15, 20, 21, 22, 23, 24, 25] (by decide +kernel) (by decide +kernel)
set_option maxRecDepth 20000 in
theorem gX4_duty_X4_answered : GoodIn wsX4_duty (wsV RX4 80 RX4 yX4_answered wsX4_answered) := goodIn_app (goodIn_of _ (by decide +kernel)) ggX4_duty_X4_answered
set_option maxRecDepth 20000 in
theorem ggX4_duty_X1_dutyTo : GoodIn wsX4_duty wsX1_dutyTo := goodIn_r _ [19, 7, 26, 27, 28] (by decide +kernel) (by decide +kernel)
set_option maxRecDepth 20000 in
theorem gX4_duty_X1_dutyTo : GoodIn wsX4_duty (wsV RX4 112 RX1 yX1_dutyTo wsX1_dutyTo) := goodIn_app (goodIn_of _ (by decide +kernel)) ggX4_duty_X1_dutyTo
theorem dX4_duty_0 : decode cX4_duty 0 = .ok (.aload_n 0, 1) := by decide +kernel
theorem dX4_duty_1 : decode cX4_duty 1 = .ok (.getfield 10, 3) := by decide +kernel
theorem dX4_duty_4 : decode cX4_duty 4 = .ok (.iload_n 1, 1) := by decide +kernel
theorem dX4_duty_5 : decode cX4_duty 5 = .ok (.invokevirtual 109, 3) := by decide +kernel
theorem dX4_duty_8 : decode cX4_duty 8 = .ok (.ifCond .ne 11, 3) := by decide +kernel
theorem dX4_duty_11 : decode cX4_duty 11 = .ok (.aload_n 0, 1) := by decide +kernel
theorem dX4_duty_12 : decode cX4_duty 12 = .ok (.sipush (-10002), 3) := by decide +kernel
theorem dX4_duty_15 : decode cX4_duty 15 = .ok (.invokevirtual 80, 3) := by decide +kernel
theorem dX4_duty_18 : decode cX4_duty 18 = .ok (.ireturn, 1) := by decide +kernel
theorem dX4_duty_19 : decode cX4_duty 19 = .ok (.aload_n 0, 1) := by decide +kernel
theorem dX4_duty_20 : decode cX4_duty 20 = .ok (.getfield 10, 3) := by decide +kernel
theorem dX4_duty_23 : decode cX4_duty 23 = .ok (.iload_n 1, 1) := by decide +kernel
theorem dX4_duty_24 : decode cX4_duty 24 = .ok (.invokevirtual 112, 3) := by decide +kernel
theorem dX4_duty_27 : decode cX4_duty 27 = .ok (.ireturn, 1) := by decide +kernel
set_option maxRecDepth 20000 in
theorem ggX4_worst_X1_worstOther : GoodIn wsX4_worst wsX1_worstOther := goodIn_r _ [6, 7, 8, 9, 10, 11, 12, 5, 13, 14, 15, 16, 17, 18, 19, 20, 21, 22, 23, 24, 25, 26, 27, 28, 29, 30, 31, 32, 33, 34, 35, 36, 37, 38, 39, 40, 47, 48, 49, 50, 51, 52, 53] (by decide +kernel) (by decide +kernel)
set_option maxRecDepth 20000 in
theorem gX4_worst_X1_worstOther : GoodIn wsX4_worst (wsV RX4 115 RX1 yX1_worstOther wsX1_worstOther) := goodIn_app (goodIn_of _ (by decide +kernel)) ggX4_worst_X1_worstOther
theorem dX4_worst_0 : decode cX4_worst 0 = .ok (.aload_n 0, 1) := by decide +kernel
theorem dX4_worst_1 : decode cX4_worst 1 = .ok (.getfield 10, 3) := by decide +kernel
theorem dX4_worst_4 : decode cX4_worst 4 = .ok (.invokevirtual 115, 3) := by decide +kernel
theorem dX4_worst_7 : decode cX4_worst 7 = .ok (.ireturn, 1) := by decide +kernel
set_option maxRecDepth 20000 in
theorem ggX4_clear_X1_isShip : GoodIn wsX4_clear wsX1_isShip := goodIn_r _ [6, 7, 53, 54, 55] (by decide +kernel) (by decide +kernel)
set_option maxRecDepth 20000 in
theorem gX4_clear_X1_isShip : GoodIn wsX4_clear (wsV RX4 76 RX1 yX1_isShip wsX1_isShip) := goodIn_app (goodIn_of _ (by decide +kernel)) ggX4_clear_X1_isShip
set_option maxRecDepth 20000 in
theorem ggX4_clear_X4_isCourse : GoodIn wsX4_clear wsX4_isCourse := goodIn_r _ [11] (by decide +kernel) (by decide +kernel)
set_option maxRecDepth 20000 in
theorem gX4_clear_X4_isCourse : GoodIn wsX4_clear (va_wsS RX4 118 yX4_isCourse wsX4_isCourse) := goodIn_app (goodIn_of _ (by decide +kernel)) ggX4_clear_X4_isCourse
set_option maxRecDepth 20000 in
theorem ggX4_clear_X4_answered : GoodIn wsX4_clear wsX4_answered := goodIn_r _ [15, 16, 17, 18, 47, 48, 49, 50, 51, 52] (by decide +kernel) (by decide +kernel)
set_option maxRecDepth 20000 in
theorem gX4_clear_X4_answered : GoodIn wsX4_clear (wsV RX4 80 RX4 yX4_answered wsX4_answered) := goodIn_app (goodIn_of _ (by decide +kernel)) ggX4_clear_X4_answered
set_option maxRecDepth 20000 in
theorem ggX4_clear_X1_isClear : GoodIn wsX4_clear wsX1_isClear := goodIn_r _ [22, 7, 23, 24, 25, 5, 26, 27, 28, 29, 30, 31, 32, 33, 34, 35, 36, 37, 38, 39, 40, 41, 42, 43, 44, 45, 46, 53, 54, 55, 56, 57, 58, 59] (by decide +kernel) (by decide +kernel)
set_option maxRecDepth 20000 in
theorem gX4_clear_X1_isClear : GoodIn wsX4_clear (wsV RX4 121 RX1 yX1_isClear wsX1_isClear) := goodIn_app (goodIn_of _ (by decide +kernel)) ggX4_clear_X1_isClear
theorem dX4_clear_0 : decode cX4_clear 0 = .ok (.aload_n 0, 1) := by decide +kernel
theorem dX4_clear_1 : decode cX4_clear 1 = .ok (.getfield 10, 3) := by decide +kernel
theorem dX4_clear_4 : decode cX4_clear 4 = .ok (.iload_n 1, 1) := by decide +kernel
theorem dX4_clear_5 : decode cX4_clear 5 = .ok (.invokevirtual 76, 3) := by decide +kernel
theorem dX4_clear_8 : decode cX4_clear 8 = .ok (.ifCond .eq 11, 3) := by decide +kernel
theorem dX4_clear_11 : decode cX4_clear 11 = .ok (.iload_n 2, 1) := by decide +kernel
theorem dX4_clear_12 : decode cX4_clear 12 = .ok (.iload_n 3, 1) := by decide +kernel
theorem dX4_clear_13 : decode cX4_clear 13 = .ok (.invokestatic 118, 3) := by decide +kernel
theorem dX4_clear_16 : decode cX4_clear 16 = .ok (.ifCond .ne 11, 3) := by decide +kernel
theorem dX4_clear_19 : decode cX4_clear 19 = .ok (.aload_n 0, 1) := by decide +kernel
theorem dX4_clear_20 : decode cX4_clear 20 = .ok (.sipush (-10002), 3) := by decide +kernel
theorem dX4_clear_23 : decode cX4_clear 23 = .ok (.invokevirtual 80, 3) := by decide +kernel
theorem dX4_clear_26 : decode cX4_clear 26 = .ok (.ireturn, 1) := by decide +kernel
theorem dX4_clear_27 : decode cX4_clear 27 = .ok (.aload_n 0, 1) := by decide +kernel
theorem dX4_clear_28 : decode cX4_clear 28 = .ok (.getfield 10, 3) := by decide +kernel
theorem dX4_clear_31 : decode cX4_clear 31 = .ok (.iload_n 1, 1) := by decide +kernel
theorem dX4_clear_32 : decode cX4_clear 32 = .ok (.iload_n 2, 1) := by decide +kernel
theorem dX4_clear_33 : decode cX4_clear 33 = .ok (.iload_n 3, 1) := by decide +kernel
theorem dX4_clear_34 : decode cX4_clear 34 = .ok (.invokevirtual 121, 3) := by decide +kernel
theorem dX4_clear_37 : decode cX4_clear 37 = .ok (.ifCond .eq 7, 3) := by decide +kernel
theorem dX4_clear_40 : decode cX4_clear 40 = .ok (.iconst 1, 1) := by decide +kernel
theorem dX4_clear_41 : decode cX4_clear 41 = .ok (.goto 4, 3) := by decide +kernel
theorem dX4_clear_44 : decode cX4_clear 44 = .ok (.iconst 0, 1) := by decide +kernel
theorem dX4_clear_45 : decode cX4_clear 45 = .ok (.ireturn, 1) := by decide +kernel
set_option maxRecDepth 20000 in
theorem ggX4_blocked_X1_isOther : GoodIn wsX4_blocked wsX1_isOther := goodIn_r _ [6, 7, 50, 51, 52] (by decide +kernel) (by decide +kernel)
set_option maxRecDepth 20000 in
theorem gX4_blocked_X1_isOther : GoodIn wsX4_blocked (wsV RX4 109 RX1 yX1_isOther wsX1_isOther) := goodIn_app (goodIn_of _ (by decide +kernel)) ggX4_blocked_X1_isOther
set_option maxRecDepth 20000 in
theorem ggX4_blocked_X4_answered : GoodIn wsX4_blocked wsX4_answered := goodIn_r _ [12, 13, 14, 15, 44, 45, 46, 47, 48, 49] (by decide +kernel) (by decide +kernel)
set_option maxRecDepth 20000 in
theorem gX4_blocked_X4_answered : GoodIn wsX4_blocked (wsV RX4 80 RX4 yX4_answered wsX4_answered) := goodIn_app (goodIn_of _ (by decide +kernel)) ggX4_blocked_X4_answered
set_option maxRecDepth 20000 in
theorem ggX4_blocked_X1_blockedBy : GoodIn wsX4_blocked wsX1_blockedBy := goodIn_r _ [19, 7, 20, 21, 22, 5, 23, 24, 25, 26, 27, 28, 29, 30, 31, 32, 33, 34, 35, 36, 37, 38, 39, 40, 41, 42, 43, 50, 51, 52, 53, 54, 55, 56] (by decide +kernel) (by decide +kernel)
set_option maxRecDepth 20000 in
theorem gX4_blocked_X1_blockedBy : GoodIn wsX4_blocked (wsV RX4 125 RX1 yX1_blockedBy wsX1_blockedBy) := goodIn_app (goodIn_of _ (by decide +kernel)) ggX4_blocked_X1_blockedBy
theorem dX4_blocked_0 : decode cX4_blocked 0 = .ok (.aload_n 0, 1) := by decide +kernel
theorem dX4_blocked_1 : decode cX4_blocked 1 = .ok (.getfield 10, 3) := by decide +kernel
theorem dX4_blocked_4 : decode cX4_blocked 4 = .ok (.iload_n 1, 1) := by decide +kernel
theorem dX4_blocked_5 : decode cX4_blocked 5 = .ok (.invokevirtual 109, 3) := by decide +kernel
theorem dX4_blocked_8 : decode cX4_blocked 8 = .ok (.ifCond .ne 11, 3) := by decide +kernel
theorem dX4_blocked_11 : decode cX4_blocked 11 = .ok (.aload_n 0, 1) := by decide +kernel
theorem dX4_blocked_12 : decode cX4_blocked 12 = .ok (.sipush (-10002), 3) := by decide +kernel
theorem dX4_blocked_15 : decode cX4_blocked 15 = .ok (.invokevirtual 80, 3) := by decide +kernel
theorem dX4_blocked_18 : decode cX4_blocked 18 = .ok (.ireturn, 1) := by decide +kernel
theorem dX4_blocked_19 : decode cX4_blocked 19 = .ok (.aload_n 0, 1) := by decide +kernel
theorem dX4_blocked_20 : decode cX4_blocked 20 = .ok (.getfield 10, 3) := by decide +kernel
theorem dX4_blocked_23 : decode cX4_blocked 23 = .ok (.iload_n 1, 1) := by decide +kernel
theorem dX4_blocked_24 : decode cX4_blocked 24 = .ok (.invokevirtual 125, 3) := by decide +kernel
theorem dX4_blocked_27 : decode cX4_blocked 27 = .ok (.ireturn, 1) := by decide +kernel
set_option maxRecDepth 20000 in
theorem ggX4_advice_X1_isShip : GoodIn wsX4_advice wsX1_isShip := goodIn_r _ [6, 7, 82, 83, 84] (by decide +kernel) (by decide +kernel)
set_option maxRecDepth 20000 in
theorem gX4_advice_X1_isShip : GoodIn wsX4_advice (wsV RX4 76 RX1 yX1_isShip wsX1_isShip) := goodIn_app (goodIn_of _ (by decide +kernel)) ggX4_advice_X1_isShip
set_option maxRecDepth 20000 in
theorem ggX4_advice_X4_answered : GoodIn wsX4_advice wsX4_answered := goodIn_r _ [12, 13, 14, 15, 76, 77, 78, 79, 80, 81] (by decide +kernel) (by decide +kernel)
set_option maxRecDepth 20000 in
theorem gX4_advice_X4_answered : GoodIn wsX4_advice (wsV RX4 80 RX4 yX4_answered wsX4_answered) := goodIn_app (goodIn_of _ (by decide +kernel)) ggX4_advice_X4_answered
set_option maxRecDepth 20000 in
theorem ggX4_advice_X1_adviceFor : GoodIn wsX4_advice wsX1_adviceFor := goodIn_r _ [19, 7, 20, 21, 22, 5, 23, 24, 25, 26, 27, 28, 29, 30, 31, 32, 33, 34, 35, 36, 37, 38, 39, 40, 41, 42, 43, 44, 45, 46, 47, 48, 49, 50, 51, 52, 53, 54, 55, 56, 57, 58, 59, 60, 61, 62, 63, 64, 65, 66, 67, 68, 69, 70, 71, 72, 73, 74, 75, 82, 83, 84, 85, 86, 87, 88] (by decide +kernel) (by decide +kernel)
set_option maxRecDepth 20000 in
theorem gX4_advice_X1_adviceFor : GoodIn wsX4_advice (wsV RX4 70 RX1 yX1_adviceFor wsX1_adviceFor) := goodIn_app (goodIn_of _ (by decide +kernel)) ggX4_advice_X1_adviceFor
theorem dX4_advice_0 : decode cX4_advice 0 = .ok (.aload_n 0, 1) := by decide +kernel
theorem dX4_advice_1 : decode cX4_advice 1 = .ok (.getfield 10, 3) := by decide +kernel
theorem dX4_advice_4 : decode cX4_advice 4 = .ok (.iload_n 1, 1) := by decide +kernel
theorem dX4_advice_5 : decode cX4_advice 5 = .ok (.invokevirtual 76, 3) := by decide +kernel
theorem dX4_advice_8 : decode cX4_advice 8 = .ok (.ifCond .ne 11, 3) := by decide +kernel
theorem dX4_advice_11 : decode cX4_advice 11 = .ok (.aload_n 0, 1) := by decide +kernel
theorem dX4_advice_12 : decode cX4_advice 12 = .ok (.sipush (-10002), 3) := by decide +kernel
theorem dX4_advice_15 : decode cX4_advice 15 = .ok (.invokevirtual 80, 3) := by decide +kernel
theorem dX4_advice_18 : decode cX4_advice 18 = .ok (.ireturn, 1) := by decide +kernel
theorem dX4_advice_19 : decode cX4_advice 19 = .ok (.aload_n 0, 1) := by decide +kernel
theorem dX4_advice_20 : decode cX4_advice 20 = .ok (.getfield 10, 3) := by decide +kernel
theorem dX4_advice_23 : decode cX4_advice 23 = .ok (.iload_n 1, 1) := by decide +kernel
theorem dX4_advice_24 : decode cX4_advice 24 = .ok (.invokevirtual 70, 3) := by decide +kernel
theorem dX4_advice_27 : decode cX4_advice 27 = .ok (.ireturn, 1) := by decide +kernel
set_option maxRecDepth 20000 in
theorem ggX4_count_X4_answered : GoodIn wsX4_count wsX4_answered := goodIn_r _ [6, 7, 8, 9, 16, 17, 18, 19, 20, 21] (by decide +kernel) (by decide +kernel)
set_option maxRecDepth 20000 in
theorem gX4_count_X4_answered : GoodIn wsX4_count (wsV RX4 80 RX4 yX4_answered wsX4_answered) := goodIn_app (goodIn_of _ (by decide +kernel)) ggX4_count_X4_answered
set_option maxRecDepth 20000 in
theorem ggX4_count_X1_countOf : GoodIn wsX4_count wsX1_countOf := goodIn_r _ [14, 15, 22, 23, 24] (by decide +kernel) (by decide +kernel)
set_option maxRecDepth 20000 in
theorem gX4_count_X1_countOf : GoodIn wsX4_count (wsV RX4 128 RX1 yX1_countOf wsX1_countOf) := goodIn_app (goodIn_of _ (by decide +kernel)) ggX4_count_X1_countOf
theorem dX4_count_0 : decode cX4_count 0 = .ok (.iload_n 1, 1) := by decide +kernel
theorem dX4_count_1 : decode cX4_count 1 = .ok (.ifCond .lt 8, 3) := by decide +kernel
theorem dX4_count_4 : decode cX4_count 4 = .ok (.iload_n 1, 1) := by decide +kernel
theorem dX4_count_5 : decode cX4_count 5 = .ok (.iconst 3, 1) := by decide +kernel
theorem dX4_count_6 : decode cX4_count 6 = .ok (.if_icmp .le 11, 3) := by decide +kernel
theorem dX4_count_9 : decode cX4_count 9 = .ok (.aload_n 0, 1) := by decide +kernel
theorem dX4_count_10 : decode cX4_count 10 = .ok (.sipush (-10002), 3) := by decide +kernel
theorem dX4_count_13 : decode cX4_count 13 = .ok (.invokevirtual 80, 3) := by decide +kernel
theorem dX4_count_16 : decode cX4_count 16 = .ok (.ireturn, 1) := by decide +kernel
theorem dX4_count_17 : decode cX4_count 17 = .ok (.aload_n 0, 1) := by decide +kernel
theorem dX4_count_18 : decode cX4_count 18 = .ok (.getfield 10, 3) := by decide +kernel
theorem dX4_count_21 : decode cX4_count 21 = .ok (.iload_n 1, 1) := by decide +kernel
theorem dX4_count_22 : decode cX4_count 22 = .ok (.invokevirtual 128, 3) := by decide +kernel
theorem dX4_count_25 : decode cX4_count 25 = .ok (.ireturn, 1) := by decide +kernel
set_option maxRecDepth 20000 in
theorem ggX4_type_X3_append : GoodIn wsX4_type wsX3_append := goodIn_r _ [6, 7, 8, 23, 24, 25, 26, 27] (by decide +kernel) (by decide +kernel)
set_option maxRecDepth 20000 in
theorem gX4_type_X3_append : GoodIn wsX4_type (wsV RX4 131 RX3 yX3_append wsX3_append) := goodIn_app (goodIn_of _ (by decide +kernel)) ggX4_type_X3_append
set_option maxRecDepth 20000 in
theorem ggX4_type_X4_answered : GoodIn wsX4_type wsX4_answered := goodIn_r _ [13, 14, 15, 16, 17, 18, 19, 20, 21, 22] (by decide +kernel) (by decide +kernel)
set_option maxRecDepth 20000 in
theorem gX4_type_X4_answered : GoodIn wsX4_type (wsV RX4 80 RX4 yX4_answered wsX4_answered) := goodIn_app (goodIn_of _ (by decide +kernel)) ggX4_type_X4_answered
theorem dX4_type_0 : decode cX4_type 0 = .ok (.aload_n 0, 1) := by decide +kernel
theorem dX4_type_1 : decode cX4_type 1 = .ok (.aload_n 0, 1) := by decide +kernel
theorem dX4_type_2 : decode cX4_type 2 = .ok (.getfield 26, 3) := by decide +kernel
theorem dX4_type_5 : decode cX4_type 5 = .ok (.iload_n 1, 1) := by decide +kernel
theorem dX4_type_6 : decode cX4_type 6 = .ok (.invokevirtual 131, 3) := by decide +kernel
theorem dX4_type_9 : decode cX4_type 9 = .ok (.invokevirtual 80, 3) := by decide +kernel
theorem dX4_type_12 : decode cX4_type 12 = .ok (.ireturn, 1) := by decide +kernel
set_option maxRecDepth 20000 in
theorem ggX4_wipes_X3_empty : GoodIn wsX4_wipes wsX3_empty := goodIn_r _ [6, 7, 14, 15, 16, 17, 18] (by decide +kernel) (by decide +kernel)
set_option maxRecDepth 20000 in
theorem gX4_wipes_X3_empty : GoodIn wsX4_wipes (wsV RX4 134 RX3 yX3_empty wsX3_empty) := goodIn_app (goodIn_of _ (by decide +kernel)) ggX4_wipes_X3_empty
theorem dX4_wipes_0 : decode cX4_wipes 0 = .ok (.aload_n 0, 1) := by decide +kernel
theorem dX4_wipes_1 : decode cX4_wipes 1 = .ok (.getfield 26, 3) := by decide +kernel
theorem dX4_wipes_4 : decode cX4_wipes 4 = .ok (.invokevirtual 134, 3) := by decide +kernel
theorem dX4_wipes_7 : decode cX4_wipes 7 = .ok (.ireturn, 1) := by decide +kernel
set_option maxRecDepth 20000 in
theorem ggX4_does_X3_faultPlace : GoodIn wsX4_does wsX3_faultPlace := goodIn_r _ [9, 10, 11, 12, 13, 14, 8, 15, 16, 17, 18, 19, 20, 21, 22, 23, 24, 25, 26, 27, 28, 29, 30, 31, 32, 33, 34, 35, 36, 37, 38, 39, 40, 41, 42, 43, 44, 213, 214, 215, 216, 217] (by decide +kernel) (by decide +kernel)
set_option maxRecDepth 20000 in
theorem gX4_does_X3_faultPlace : GoodIn wsX4_does (wsV RX4 137 RX3 yX3_faultPlace wsX3_faultPlace) := goodIn_app (goodIn_of _ (by decide +kernel)) ggX4_does_X3_faultPlace
set_option maxRecDepth 20000 in
theorem ggX4_does_X2_mark : GoodIn wsX4_does wsX2_mark := goodIn_r _ [49, 50, 51, 52, 53, 54, 55, 218, 219] (by decide +kernel) (by decide +kernel)
set_option maxRecDepth 20000 in
theorem gX4_does_X2_mark : GoodIn wsX4_does (wsV RX4 34 RX2 yX2_mark wsX2_mark) := goodIn_app (goodIn_of _ (by decide +kernel)) ggX4_does_X2_mark
set_option maxRecDepth 20000 in
theorem ggX4_does_X3_rewind : GoodIn wsX4_does wsX3_rewind := goodIn_r _ [15, 11, 16, 17, 18, 8, 19, 10, 20, 21, 22, 23, 24, 213, 214, 215, 216, 217] (by decide +kernel) (by decide +kernel)
set_option maxRecDepth 20000 in
theorem gX4_does_X3_rewind : GoodIn wsX4_does (wsV RX4 140 RX3 yX3_rewind wsX3_rewind) := goodIn_app (goodIn_of _ (by decide +kernel)) ggX4_does_X3_rewind
set_option maxRecDepth 20000 in
theorem ggX4_does_X3_hasMore : GoodIn wsX4_does wsX3_hasMore := goodIn_r _ [28, 11, 10, 213, 214, 215, 216, 217] (by decide +kernel) (by decide +kernel)
set_option maxRecDepth 20000 in
theorem gX4_does_X3_hasMore : GoodIn wsX4_does (wsV RX4 143 RX3 yX3_hasMore wsX3_hasMore) := goodIn_app (goodIn_of _ (by decide +kernel)) ggX4_does_X3_hasMore
set_option maxRecDepth 20000 in
theorem ggX4_does_X3_readOrder : GoodIn wsX4_does wsX3_readOrder := goodIn_r _ [32, 33, 11, 20, 21, 22, 8, 23, 10, 24, 34, 35, 36, 16, 17, 18, 19, 37, 38, 39, 40, 41, 42, 43, 44, 213, 214, 215, 216, 217] (by decide +kernel) (by decide +kernel)
set_option maxRecDepth 20000 in
theorem gX4_does_X3_readOrder : GoodIn wsX4_does (wsV RX4 147 RX3 yX3_readOrder wsX3_readOrder) := goodIn_app (goodIn_of _ (by decide +kernel)) ggX4_does_X3_readOrder
set_option maxRecDepth 20000 in
theorem ggX4_does_X4_perform : GoodIn wsX4_does wsX4_perform := goodIn_r _ [63, 1, 64, 65, 3, 66, 67, 68, 69, 70, 71, 72, 73, 74, 75, 62, 76, 77, 78, 79, 80, 81, 82, 83, 84, 85, 86, 87, 88, 89, 90, 91, 92, 93, 94, 95, 96, 97, 98, 99, 100, 101, 102, 103, 104, 105, 106, 107, 108, 109, 110, 111, 112, 113, 114, 115, 116, 117, 118, 119, 120, 121, 122, 123, 124, 125, 126, 127, 128, 129, 130, 131, 132, 133, 134, 135, 136, 137, 138, 139, 140, 141, 142, 143, 144, 145, 146, 147, 148, 149, 150, 151, 152, 153, 154, 155, 156, 157, 158, 159, 160, 161, 162, 163, 164, 165, 166, 167, 168, 169, 170, 171, 172, 173, 174, 175, 176, 177, 178, 179, 180, 181, 182, 183, 184, 185, 186, 187, 188, 189, 190, 191, 192, 204, 205, 206, 207, 208, 209, 213, 214, 215, 216, 217, 210, 211, 212, 220, 221, 222, 223] (by decide +kernel) (by decide +kernel)
set_option maxRecDepth 20000 in
theorem gX4_does_X4_perform : GoodIn wsX4_does (wsV RX4 150 RX4 yX4_perform wsX4_perform) := goodIn_app (goodIn_of _ (by decide +kernel)) ggX4_does_X4_perform
set_option maxRecDepth 20000 in
theorem ggX4_does_X4_isRefusal : GoodIn wsX4_does wsX4_isRefusal := goodIn_r _ [195] (by decide +kernel) (by decide +kernel)
set_option maxRecDepth 20000 in
theorem gX4_does_X4_isRefusal : GoodIn wsX4_does (va_wsS RX4 153 yX4_isRefusal wsX4_isRefusal) := goodIn_app (goodIn_of _ (by decide +kernel)) ggX4_does_X4_isRefusal
set_option maxRecDepth 20000 in
theorem ggX4_does_X2_restore : GoodIn wsX4_does wsX2_restore := goodIn_r _ [199, 50, 51, 52, 53, 54, 55, 218, 219] (by decide +kernel) (by decide +kernel)
set_option maxRecDepth 20000 in
theorem gX4_does_X2_restore : GoodIn wsX4_does (wsV RX4 156 RX2 yX2_restore wsX2_restore) := goodIn_app (goodIn_of _ (by decide +kernel)) ggX4_does_X2_restore
set_option maxRecDepth 20000 in
theorem ggX4_does_X2_keep : GoodIn wsX4_does wsX2_keep := goodIn_r _ [203, 51, 50, 52, 53, 54, 55, 218, 219] (by decide +kernel) (by decide +kernel)
set_option maxRecDepth 20000 in
theorem gX4_does_X2_keep : GoodIn wsX4_does (wsV RX4 159 RX2 yX2_keep wsX2_keep) := goodIn_app (goodIn_of _ (by decide +kernel)) ggX4_does_X2_keep
theorem dX4_does_0 : decode cX4_does 0 = .ok (.aload_n 0, 1) := by decide +kernel
theorem dX4_does_1 : decode cX4_does 1 = .ok (.getfield 26, 3) := by decide +kernel
theorem dX4_does_4 : decode cX4_does 4 = .ok (.invokevirtual 137, 3) := by decide +kernel
theorem dX4_does_7 : decode cX4_does 7 = .ok (.istore_n 1, 1) := by decide +kernel
theorem dX4_does_8 : decode cX4_does 8 = .ok (.iload_n 1, 1) := by decide +kernel
theorem dX4_does_9 : decode cX4_does 9 = .ok (.ifCond .lt 8, 3) := by decide +kernel
theorem dX4_does_12 : decode cX4_does 12 = .ok (.bipush (-10), 2) := by decide +kernel
theorem dX4_does_14 : decode cX4_does 14 = .ok (.iload_n 1, 1) := by decide +kernel
theorem dX4_does_15 : decode cX4_does 15 = .ok (.isub, 1) := by decide +kernel
theorem dX4_does_16 : decode cX4_does 16 = .ok (.ireturn, 1) := by decide +kernel
theorem dX4_does_17 : decode cX4_does 17 = .ok (.aload_n 0, 1) := by decide +kernel
theorem dX4_does_18 : decode cX4_does 18 = .ok (.getfield 19, 3) := by decide +kernel
theorem dX4_does_21 : decode cX4_does 21 = .ok (.aload_n 0, 1) := by decide +kernel
theorem dX4_does_22 : decode cX4_does 22 = .ok (.getfield 10, 3) := by decide +kernel
theorem dX4_does_25 : decode cX4_does 25 = .ok (.getfield 30, 3) := by decide +kernel
theorem dX4_does_28 : decode cX4_does 28 = .ok (.invokevirtual 34, 3) := by decide +kernel
theorem dX4_does_31 : decode cX4_does 31 = .ok (.aload_n 0, 1) := by decide +kernel
theorem dX4_does_32 : decode cX4_does 32 = .ok (.getfield 26, 3) := by decide +kernel
theorem dX4_does_35 : decode cX4_does 35 = .ok (.invokevirtual 140, 3) := by decide +kernel
theorem dX4_does_38 : decode cX4_does 38 = .ok (.iconst 0, 1) := by decide +kernel
theorem dX4_does_39 : decode cX4_does 39 = .ok (.istore_n 2, 1) := by decide +kernel
theorem dX4_does_40 : decode cX4_does 40 = .ok (.iload_n 2, 1) := by decide +kernel
theorem dX4_does_41 : decode cX4_does 41 = .ok (.bipush 75, 2) := by decide +kernel
theorem dX4_does_43 : decode cX4_does 43 = .ok (.if_icmp .ge 59, 3) := by decide +kernel
theorem dX4_does_46 : decode cX4_does 46 = .ok (.aload_n 0, 1) := by decide +kernel
theorem dX4_does_47 : decode cX4_does 47 = .ok (.getfield 26, 3) := by decide +kernel
theorem dX4_does_50 : decode cX4_does 50 = .ok (.invokevirtual 143, 3) := by decide +kernel
theorem dX4_does_53 : decode cX4_does 53 = .ok (.ifCond .eq 49, 3) := by decide +kernel
theorem dX4_does_56 : decode cX4_does 56 = .ok (.aload_n 0, 1) := by decide +kernel
theorem dX4_does_57 : decode cX4_does 57 = .ok (.getfield 26, 3) := by decide +kernel
theorem dX4_does_60 : decode cX4_does 60 = .ok (.invokevirtual 147, 3) := by decide +kernel
theorem dX4_does_63 : decode cX4_does 63 = .ok (.ifCond .eq 13, 3) := by decide +kernel
theorem dX4_does_66 : decode cX4_does 66 = .ok (.aload_n 0, 1) := by decide +kernel
theorem dX4_does_67 : decode cX4_does 67 = .ok (.invokevirtual 150, 3) := by decide +kernel
theorem dX4_does_70 : decode cX4_does 70 = .ok (.invokestatic 153, 3) := by decide +kernel
theorem dX4_does_73 : decode cX4_does 73 = .ok (.ifCond .eq 23, 3) := by decide +kernel
theorem dX4_does_76 : decode cX4_does 76 = .ok (.aload_n 0, 1) := by decide +kernel
theorem dX4_does_77 : decode cX4_does 77 = .ok (.getfield 19, 3) := by decide +kernel
theorem dX4_does_80 : decode cX4_does 80 = .ok (.aload_n 0, 1) := by decide +kernel
theorem dX4_does_81 : decode cX4_does 81 = .ok (.getfield 10, 3) := by decide +kernel
theorem dX4_does_84 : decode cX4_does 84 = .ok (.getfield 30, 3) := by decide +kernel
theorem dX4_does_87 : decode cX4_does 87 = .ok (.invokevirtual 156, 3) := by decide +kernel
theorem dX4_does_90 : decode cX4_does 90 = .ok (.sipush (-1000), 3) := by decide +kernel
theorem dX4_does_93 : decode cX4_does 93 = .ok (.iload_n 2, 1) := by decide +kernel
theorem dX4_does_94 : decode cX4_does 94 = .ok (.isub, 1) := by decide +kernel
theorem dX4_does_95 : decode cX4_does 95 = .ok (.ireturn, 1) := by decide +kernel
theorem dX4_does_96 : decode cX4_does 96 = .ok (.iinc 2 1, 3) := by decide +kernel
theorem dX4_does_99 : decode cX4_does 99 = .ok (.goto (-59), 3) := by decide +kernel
theorem dX4_does_102 : decode cX4_does 102 = .ok (.aload_n 0, 1) := by decide +kernel
theorem dX4_does_103 : decode cX4_does 103 = .ok (.getfield 19, 3) := by decide +kernel
theorem dX4_does_106 : decode cX4_does 106 = .ok (.invokevirtual 159, 3) := by decide +kernel
theorem dX4_does_109 : decode cX4_does 109 = .ok (.iload_n 2, 1) := by decide +kernel
theorem dX4_does_110 : decode cX4_does 110 = .ok (.ireturn, 1) := by decide +kernel
set_option maxRecDepth 20000 in
theorem ggX4_back_X4_answered : GoodIn wsX4_back wsX4_answered := goodIn_r _ [9, 10, 11, 12, 28, 29, 30, 31, 32, 33] (by decide +kernel) (by decide +kernel)
set_option maxRecDepth 20000 in
theorem gX4_back_X4_answered : GoodIn wsX4_back (wsV RX4 80 RX4 yX4_answered wsX4_answered) := goodIn_app (goodIn_of _ (by decide +kernel)) ggX4_back_X4_answered
set_option maxRecDepth 20000 in
theorem ggX4_back_X2_takeBack : GoodIn wsX4_back wsX2_takeBack := goodIn_r _ [17, 18, 19, 20, 21, 16, 22, 23, 24, 25, 26, 27, 34, 35] (by decide +kernel) (by decide +kernel)
set_option maxRecDepth 20000 in
theorem gX4_back_X2_takeBack : GoodIn wsX4_back (wsV RX4 166 RX2 yX2_takeBack wsX2_takeBack) := goodIn_app (goodIn_of _ (by decide +kernel)) ggX4_back_X2_takeBack
theorem dX4_back_0 : decode cX4_back 0 = .ok (.aload_n 0, 1) := by decide +kernel
theorem dX4_back_1 : decode cX4_back 1 = .ok (.getfield 19, 3) := by decide +kernel
theorem dX4_back_4 : decode cX4_back 4 = .ok (.getfield 162, 3) := by decide +kernel
theorem dX4_back_7 : decode cX4_back 7 = .ok (.ifCond .ne 11, 3) := by decide +kernel
theorem dX4_back_10 : decode cX4_back 10 = .ok (.aload_n 0, 1) := by decide +kernel
theorem dX4_back_11 : decode cX4_back 11 = .ok (.sipush (-10003), 3) := by decide +kernel
theorem dX4_back_14 : decode cX4_back 14 = .ok (.invokevirtual 80, 3) := by decide +kernel
theorem dX4_back_17 : decode cX4_back 17 = .ok (.ireturn, 1) := by decide +kernel
theorem dX4_back_18 : decode cX4_back 18 = .ok (.aload_n 0, 1) := by decide +kernel
theorem dX4_back_19 : decode cX4_back 19 = .ok (.getfield 19, 3) := by decide +kernel
theorem dX4_back_22 : decode cX4_back 22 = .ok (.aload_n 0, 1) := by decide +kernel
theorem dX4_back_23 : decode cX4_back 23 = .ok (.getfield 10, 3) := by decide +kernel
theorem dX4_back_26 : decode cX4_back 26 = .ok (.getfield 30, 3) := by decide +kernel
theorem dX4_back_29 : decode cX4_back 29 = .ok (.invokevirtual 166, 3) := by decide +kernel
theorem dX4_back_32 : decode cX4_back 32 = .ok (.aload_n 0, 1) := by decide +kernel
theorem dX4_back_33 : decode cX4_back 33 = .ok (.getfield 19, 3) := by decide +kernel
theorem dX4_back_36 : decode cX4_back 36 = .ok (.getfield 162, 3) := by decide +kernel
theorem dX4_back_39 : decode cX4_back 39 = .ok (.ireturn, 1) := by decide +kernel
set_option maxRecDepth 20000 in
theorem ggX4_told_X4_answered : GoodIn wsX4_told wsX4_answered := goodIn_r _ [5, 6, 7, 8, 17, 18, 19, 20, 21, 22] (by decide +kernel) (by decide +kernel)
set_option maxRecDepth 20000 in
theorem gX4_told_X4_answered : GoodIn wsX4_told (wsV RX4 80 RX4 yX4_answered wsX4_answered) := goodIn_app (goodIn_of _ (by decide +kernel)) ggX4_told_X4_answered
set_option maxRecDepth 20000 in
theorem ggX4_told_X4_tally : GoodIn wsX4_told wsX4_tally := goodIn_r _ [12, 6, 7, 8, 13, 14, 15, 16, 17, 18, 19, 20, 21, 22, 23, 24, 25, 26, 27, 28, 29] (by decide +kernel) (by decide +kernel)
set_option maxRecDepth 20000 in
theorem gX4_told_X4_tally : GoodIn wsX4_told (wsV RX4 169 RX4 yX4_tally wsX4_tally) := goodIn_app (goodIn_of _ (by decide +kernel)) ggX4_told_X4_tally
theorem dX4_told_0 : decode cX4_told 0 = .ok (.iload_n 1, 1) := by decide +kernel
theorem dX4_told_1 : decode cX4_told 1 = .ok (.ifCond .lt 8, 3) := by decide +kernel
theorem dX4_told_4 : decode cX4_told 4 = .ok (.iload_n 1, 1) := by decide +kernel
theorem dX4_told_5 : decode cX4_told 5 = .ok (.iconst 4, 1) := by decide +kernel
theorem dX4_told_6 : decode cX4_told 6 = .ok (.if_icmp .le 11, 3) := by decide +kernel
theorem dX4_told_9 : decode cX4_told 9 = .ok (.aload_n 0, 1) := by decide +kernel
theorem dX4_told_10 : decode cX4_told 10 = .ok (.sipush (-10002), 3) := by decide +kernel
theorem dX4_told_13 : decode cX4_told 13 = .ok (.invokevirtual 80, 3) := by decide +kernel
theorem dX4_told_16 : decode cX4_told 16 = .ok (.ireturn, 1) := by decide +kernel
theorem dX4_told_17 : decode cX4_told 17 = .ok (.aload_n 0, 1) := by decide +kernel
theorem dX4_told_18 : decode cX4_told 18 = .ok (.iload_n 1, 1) := by decide +kernel
theorem dX4_told_19 : decode cX4_told 19 = .ok (.invokevirtual 169, 3) := by decide +kernel
theorem dX4_told_22 : decode cX4_told 22 = .ok (.ireturn, 1) := by decide +kernel
set_option maxRecDepth 20000 in
theorem ggX4_digest_X4_tally : GoodIn wsX4_digest wsX4_tally := goodIn_r _ [8, 9, 10, 11, 12, 13, 14, 15, 142, 143, 144, 145, 146, 147, 148, 149, 150, 151, 152, 153, 154] (by decide +kernel) (by decide +kernel)
set_option maxRecDepth 20000 in
theorem gX4_digest_X4_tally : GoodIn wsX4_digest (wsV RX4 169 RX4 yX4_tally wsX4_tally) := goodIn_app (goodIn_of _ (by decide +kernel)) ggX4_digest_X4_tally
set_option maxRecDepth 20000 in
theorem ggX4_digest_X1_countOf : GoodIn wsX4_digest wsX1_countOf := goodIn_r _ [20, 21, 155, 156, 157] (by decide +kernel) (by decide +kernel)
set_option maxRecDepth 20000 in
theorem gX4_digest_X1_countOf : GoodIn wsX4_digest (wsV RX4 128 RX1 yX1_countOf wsX1_countOf) := goodIn_app (goodIn_of _ (by decide +kernel)) ggX4_digest_X1_countOf
set_option maxRecDepth 20000 in
theorem ggX4_digest_X1_others : GoodIn wsX4_digest wsX1_others := goodIn_r _ [25, 21, 155, 156, 157] (by decide +kernel) (by decide +kernel)
set_option maxRecDepth 20000 in
theorem gX4_digest_X1_others : GoodIn wsX4_digest (wsV RX4 176 RX1 yX1_others wsX1_others) := goodIn_app (goodIn_of _ (by decide +kernel)) ggX4_digest_X1_others
set_option maxRecDepth 20000 in
theorem ggX4_digest_X1_foldShip : GoodIn wsX4_digest wsX1_foldShip := goodIn_r _ [29, 30, 31, 32, 33, 19, 34, 21, 35, 36, 37, 38, 39, 40, 41, 42, 43, 44, 45, 46, 47, 48, 49, 50, 51, 52, 53, 54, 55, 56, 57, 58, 59, 60, 61, 62, 63, 64, 65, 66, 67, 68, 69, 70, 71, 72, 73, 74, 75, 76, 77, 78, 79, 80, 81, 82, 83, 84, 85, 86, 87, 88, 89, 90, 91, 92, 93, 94, 95, 96, 97, 98, 99, 100, 101, 102, 155, 156, 157, 158, 159, 160, 161] (by decide +kernel) (by decide +kernel)
set_option maxRecDepth 20000 in
theorem gX4_digest_X1_foldShip : GoodIn wsX4_digest (wsV RX4 179 RX1 yX1_foldShip wsX1_foldShip) := goodIn_app (goodIn_of _ (by decide +kernel)) ggX4_digest_X1_foldShip
set_option maxRecDepth 20000 in
theorem ggX4_digest_X1_foldOther : GoodIn wsX4_digest wsX1_foldOther := goodIn_r _ [106, 30, 107, 108, 109, 19, 110, 21, 111, 112, 113, 114, 65, 66, 67, 68, 69, 39, 44, 70, 71, 72, 73, 115, 116, 117, 77, 118, 81, 82, 79, 80, 119, 120, 121, 122, 123, 124, 83, 84, 85, 86, 87, 88, 89, 90, 125, 126, 127, 128, 99, 100, 101, 102, 74, 75, 76, 78, 155, 156, 157, 158, 159, 160, 161] (by decide +kernel) (by decide +kernel)
set_option maxRecDepth 20000 in
theorem gX4_digest_X1_foldOther : GoodIn wsX4_digest (wsV RX4 183 RX1 yX1_foldOther wsX1_foldOther) := goodIn_app (goodIn_of _ (by decide +kernel)) ggX4_digest_X1_foldOther
set_option maxRecDepth 20000 in
theorem ggX4_digest_X1_worstOther : GoodIn wsX4_digest wsX1_worstOther := goodIn_r _ [132, 21, 65, 133, 61, 62, 63, 19, 64, 66, 67, 68, 69, 39, 44, 70, 71, 72, 73, 74, 75, 76, 77, 78, 79, 80, 81, 82, 134, 135, 136, 137, 138, 139, 140, 141, 155, 156, 157, 158, 159, 160, 161] (by decide +kernel) (by decide +kernel)
set_option maxRecDepth 20000 in
theorem gX4_digest_X1_worstOther : GoodIn wsX4_digest (wsV RX4 115 RX1 yX1_worstOther wsX1_worstOther) := goodIn_app (goodIn_of _ (by decide +kernel)) ggX4_digest_X1_worstOther
theorem dX4_digest_0 : decode cX4_digest 0 = .ok (.ldc2_w 172, 3) := by decide +kernel
theorem dX4_digest_3 : decode cX4_digest 3 = .ok (.lstore_n 1, 1) := by decide +kernel
theorem dX4_digest_4 : decode cX4_digest 4 = .ok (.iconst 0, 1) := by decide +kernel
theorem dX4_digest_5 : decode cX4_digest 5 = .ok (.istore_n 3, 1) := by decide +kernel
theorem dX4_digest_6 : decode cX4_digest 6 = .ok (.iload_n 3, 1) := by decide +kernel
theorem dX4_digest_7 : decode cX4_digest 7 = .ok (.iconst 4, 1) := by decide +kernel
theorem dX4_digest_8 : decode cX4_digest 8 = .ok (.if_icmp .gt 22, 3) := by decide +kernel
theorem dX4_digest_11 : decode cX4_digest 11 = .ok (.ldc2_w 174, 3) := by decide +kernel
theorem dX4_digest_14 : decode cX4_digest 14 = .ok (.lload_n 1, 1) := by decide +kernel
theorem dX4_digest_15 : decode cX4_digest 15 = .ok (.lmul, 1) := by decide +kernel
theorem dX4_digest_16 : decode cX4_digest 16 = .ok (.aload_n 0, 1) := by decide +kernel
theorem dX4_digest_17 : decode cX4_digest 17 = .ok (.iload_n 3, 1) := by decide +kernel
theorem dX4_digest_18 : decode cX4_digest 18 = .ok (.invokevirtual 169, 3) := by decide +kernel
theorem dX4_digest_21 : decode cX4_digest 21 = .ok (.i2l, 1) := by decide +kernel
theorem dX4_digest_22 : decode cX4_digest 22 = .ok (.ladd, 1) := by decide +kernel
theorem dX4_digest_23 : decode cX4_digest 23 = .ok (.lstore_n 1, 1) := by decide +kernel
theorem dX4_digest_24 : decode cX4_digest 24 = .ok (.iinc 3 1, 3) := by decide +kernel
theorem dX4_digest_27 : decode cX4_digest 27 = .ok (.goto (-21), 3) := by decide +kernel
theorem dX4_digest_30 : decode cX4_digest 30 = .ok (.iconst 0, 1) := by decide +kernel
theorem dX4_digest_31 : decode cX4_digest 31 = .ok (.istore_n 3, 1) := by decide +kernel
theorem dX4_digest_32 : decode cX4_digest 32 = .ok (.iload_n 3, 1) := by decide +kernel
theorem dX4_digest_33 : decode cX4_digest 33 = .ok (.iconst 3, 1) := by decide +kernel
theorem dX4_digest_34 : decode cX4_digest 34 = .ok (.if_icmp .gt 25, 3) := by decide +kernel
theorem dX4_digest_37 : decode cX4_digest 37 = .ok (.ldc2_w 174, 3) := by decide +kernel
theorem dX4_digest_40 : decode cX4_digest 40 = .ok (.lload_n 1, 1) := by decide +kernel
theorem dX4_digest_41 : decode cX4_digest 41 = .ok (.lmul, 1) := by decide +kernel
theorem dX4_digest_42 : decode cX4_digest 42 = .ok (.aload_n 0, 1) := by decide +kernel
theorem dX4_digest_43 : decode cX4_digest 43 = .ok (.getfield 10, 3) := by decide +kernel
theorem dX4_digest_46 : decode cX4_digest 46 = .ok (.iload_n 3, 1) := by decide +kernel
theorem dX4_digest_47 : decode cX4_digest 47 = .ok (.invokevirtual 128, 3) := by decide +kernel
theorem dX4_digest_50 : decode cX4_digest 50 = .ok (.i2l, 1) := by decide +kernel
theorem dX4_digest_51 : decode cX4_digest 51 = .ok (.ladd, 1) := by decide +kernel
theorem dX4_digest_52 : decode cX4_digest 52 = .ok (.lstore_n 1, 1) := by decide +kernel
theorem dX4_digest_53 : decode cX4_digest 53 = .ok (.iinc 3 1, 3) := by decide +kernel
theorem dX4_digest_56 : decode cX4_digest 56 = .ok (.goto (-24), 3) := by decide +kernel
theorem dX4_digest_59 : decode cX4_digest 59 = .ok (.iconst 0, 1) := by decide +kernel
theorem dX4_digest_60 : decode cX4_digest 60 = .ok (.istore_n 3, 1) := by decide +kernel
theorem dX4_digest_61 : decode cX4_digest 61 = .ok (.iload_n 3, 1) := by decide +kernel
theorem dX4_digest_62 : decode cX4_digest 62 = .ok (.aload_n 0, 1) := by decide +kernel
theorem dX4_digest_63 : decode cX4_digest 63 = .ok (.getfield 10, 3) := by decide +kernel
theorem dX4_digest_66 : decode cX4_digest 66 = .ok (.invokevirtual 176, 3) := by decide +kernel
theorem dX4_digest_69 : decode cX4_digest 69 = .ok (.if_icmp .gt 19, 3) := by decide +kernel
theorem dX4_digest_72 : decode cX4_digest 72 = .ok (.aload_n 0, 1) := by decide +kernel
theorem dX4_digest_73 : decode cX4_digest 73 = .ok (.getfield 10, 3) := by decide +kernel
theorem dX4_digest_76 : decode cX4_digest 76 = .ok (.lload_n 1, 1) := by decide +kernel
theorem dX4_digest_77 : decode cX4_digest 77 = .ok (.iload_n 3, 1) := by decide +kernel
theorem dX4_digest_78 : decode cX4_digest 78 = .ok (.invokevirtual 179, 3) := by decide +kernel
theorem dX4_digest_81 : decode cX4_digest 81 = .ok (.lstore_n 1, 1) := by decide +kernel
theorem dX4_digest_82 : decode cX4_digest 82 = .ok (.iinc 3 1, 3) := by decide +kernel
end
section
theorem dX4_digest_85 : decode cX4_digest 85 = .ok (.goto (-24), 3) := by decide +kernel
theorem dX4_digest_88 : decode cX4_digest 88 = .ok (.iconst 1, 1) := by decide +kernel
theorem dX4_digest_89 : decode cX4_digest 89 = .ok (.istore_n 3, 1) := by decide +kernel
theorem dX4_digest_90 : decode cX4_digest 90 = .ok (.iload_n 3, 1) := by decide +kernel
theorem dX4_digest_91 : decode cX4_digest 91 = .ok (.aload_n 0, 1) := by decide +kernel
theorem dX4_digest_92 : decode cX4_digest 92 = .ok (.getfield 10, 3) := by decide +kernel
theorem dX4_digest_95 : decode cX4_digest 95 = .ok (.invokevirtual 176, 3) := by decide +kernel
theorem dX4_digest_98 : decode cX4_digest 98 = .ok (.if_icmp .gt 19, 3) := by decide +kernel
theorem dX4_digest_101 : decode cX4_digest 101 = .ok (.aload_n 0, 1) := by decide +kernel
theorem dX4_digest_102 : decode cX4_digest 102 = .ok (.getfield 10, 3) := by decide +kernel
theorem dX4_digest_105 : decode cX4_digest 105 = .ok (.lload_n 1, 1) := by decide +kernel
theorem dX4_digest_106 : decode cX4_digest 106 = .ok (.iload_n 3, 1) := by decide +kernel
theorem dX4_digest_107 : decode cX4_digest 107 = .ok (.invokevirtual 183, 3) := by decide +kernel
theorem dX4_digest_110 : decode cX4_digest 110 = .ok (.lstore_n 1, 1) := by decide +kernel
theorem dX4_digest_111 : decode cX4_digest 111 = .ok (.iinc 3 1, 3) := by decide +kernel
theorem dX4_digest_114 : decode cX4_digest 114 = .ok (.goto (-24), 3) := by decide +kernel
theorem dX4_digest_117 : decode cX4_digest 117 = .ok (.ldc2_w 174, 3) := by decide +kernel
theorem dX4_digest_120 : decode cX4_digest 120 = .ok (.lload_n 1, 1) := by decide +kernel
theorem dX4_digest_121 : decode cX4_digest 121 = .ok (.lmul, 1) := by decide +kernel
theorem dX4_digest_122 : decode cX4_digest 122 = .ok (.aload_n 0, 1) := by decide +kernel
theorem dX4_digest_123 : decode cX4_digest 123 = .ok (.getfield 10, 3) := by decide +kernel
theorem dX4_digest_126 : decode cX4_digest 126 = .ok (.invokevirtual 115, 3) := by decide +kernel
theorem dX4_digest_129 : decode cX4_digest 129 = .ok (.i2l, 1) := by decide +kernel
theorem dX4_digest_130 : decode cX4_digest 130 = .ok (.ladd, 1) := by decide +kernel
theorem dX4_digest_131 : decode cX4_digest 131 = .ok (.lreturn, 1) := by decide +kernel
set_option maxRecDepth 20000 in
theorem ggX4_perform_X1_join : GoodIn wsX4_perform wsX1_join := goodIn_r _ [9, 10, 11, 12, 8, 13, 14, 15, 16, 17, 18, 19, 20, 144, 145, 146] (by decide +kernel) (by decide +kernel)
set_option maxRecDepth 20000 in
theorem gX4_perform_X1_join : GoodIn wsX4_perform (wsV RX4 38 RX1 yX1_join wsX1_join) := goodIn_app (goodIn_of _ (by decide +kernel)) ggX4_perform_X1_join
set_option maxRecDepth 20000 in
theorem ggX4_perform_X1_placeOwn : GoodIn wsX4_perform wsX1_placeOwn := goodIn_r _ [24, 10, 11, 12, 8, 13, 14, 15, 16, 17, 18, 19, 20, 144, 145, 146] (by decide +kernel) (by decide +kernel)
set_option maxRecDepth 20000 in
theorem gX4_perform_X1_placeOwn : GoodIn wsX4_perform (wsV RX4 46 RX1 yX1_placeOwn wsX1_placeOwn) := goodIn_app (goodIn_of _ (by decide +kernel)) ggX4_perform_X1_placeOwn
set_option maxRecDepth 20000 in
theorem ggX4_perform_X1_steer : GoodIn wsX4_perform wsX1_steer := goodIn_r _ [28, 10, 29, 30, 31, 8, 32, 14, 15, 16, 144, 145, 146] (by decide +kernel) (by decide +kernel)
set_option maxRecDepth 20000 in
theorem gX4_perform_X1_steer : GoodIn wsX4_perform (wsV RX4 52 RX1 yX1_steer wsX1_steer) := goodIn_app (goodIn_of _ (by decide +kernel)) ggX4_perform_X1_steer
set_option maxRecDepth 20000 in
theorem ggX4_perform_X1_goOn : GoodIn wsX4_perform wsX1_goOn := goodIn_r _ [36, 10, 37, 38, 39, 8, 40, 41, 42, 43, 44, 45, 11, 12, 13, 46, 47, 48, 49, 50, 51, 52, 53, 54, 55, 56, 57, 58, 59, 60, 61, 62, 63, 64, 65, 66, 67, 68, 69, 70, 71, 72, 73, 74, 75, 76, 77, 78, 79, 80, 81, 82, 83, 84, 85, 86, 87, 88, 89, 90, 91, 92, 93, 94, 95, 96, 97, 98, 99, 100, 101, 102, 103, 104, 144, 145, 146, 147, 148, 149, 150] (by decide +kernel) (by decide +kernel)
set_option maxRecDepth 20000 in
theorem gX4_perform_X1_goOn : GoodIn wsX4_perform (wsV RX4 60 RX1 yX1_goOn wsX1_goOn) := goodIn_app (goodIn_of _ (by decide +kernel)) ggX4_perform_X1_goOn
set_option maxRecDepth 20000 in
theorem ggX4_perform_X1_adviceFor : GoodIn wsX4_perform wsX1_adviceFor := goodIn_r _ [108, 10, 109, 110, 111, 8, 112, 101, 102, 103, 104, 59, 60, 61, 62, 63, 64, 65, 66, 67, 68, 69, 70, 71, 45, 50, 72, 73, 74, 75, 76, 77, 78, 79, 80, 81, 82, 83, 84, 85, 86, 87, 88, 89, 90, 91, 92, 113, 114, 115, 116, 117, 118, 119, 120, 121, 122, 123, 124, 144, 145, 146, 147, 148, 149, 150] (by decide +kernel) (by decide +kernel)
set_option maxRecDepth 20000 in
theorem gX4_perform_X1_adviceFor : GoodIn wsX4_perform (wsV RX4 70 RX1 yX1_adviceFor wsX1_adviceFor) := goodIn_app (goodIn_of _ (by decide +kernel)) ggX4_perform_X1_adviceFor
set_option maxRecDepth 20000 in
theorem ggX4_perform_X1_follow : GoodIn wsX4_perform wsX1_follow := goodIn_r _ [128, 10, 144, 145, 146] (by decide +kernel) (by decide +kernel)
set_option maxRecDepth 20000 in
theorem gX4_perform_X1_follow : GoodIn wsX4_perform (wsV RX4 73 RX1 yX1_follow wsX1_follow) := goodIn_app (goodIn_of _ (by decide +kernel)) ggX4_perform_X1_follow
set_option maxRecDepth 20000 in
theorem ggX4_perform_X1_setRule : GoodIn wsX4_perform wsX1_setRule := goodIn_r _ [132, 10, 144, 145, 146] (by decide +kernel) (by decide +kernel)
set_option maxRecDepth 20000 in
theorem gX4_perform_X1_setRule : GoodIn wsX4_perform (wsV RX4 56 RX1 yX1_setRule wsX1_setRule) := goodIn_app (goodIn_of _ (by decide +kernel)) ggX4_perform_X1_setRule
theorem dX4_perform_0 : decode cX4_perform 0 = .ok (.aload_n 0, 1) := by decide +kernel
theorem dX4_perform_1 : decode cX4_perform 1 = .ok (.getfield 26, 3) := by decide +kernel
theorem dX4_perform_4 : decode cX4_perform 4 = .ok (.getfield 186, 3) := by decide +kernel
theorem dX4_perform_7 : decode cX4_perform 7 = .ok (.astore_n 1, 1) := by decide +kernel
theorem dX4_perform_8 : decode cX4_perform 8 = .ok (.aload_n 0, 1) := by decide +kernel
theorem dX4_perform_9 : decode cX4_perform 9 = .ok (.getfield 26, 3) := by decide +kernel
theorem dX4_perform_12 : decode cX4_perform 12 = .ok (.getfield 189, 3) := by decide +kernel
theorem dX4_perform_15 : decode cX4_perform 15 = .ok (.lookupswitch 131 #[(97, 49), (98, 115), (110, 104), (111, 69), (116, 89)], 49) := by decide +kernel
theorem dX4_perform_64 : decode cX4_perform 64 = .ok (.aload_n 0, 1) := by decide +kernel
theorem dX4_perform_65 : decode cX4_perform 65 = .ok (.getfield 10, 3) := by decide +kernel
theorem dX4_perform_68 : decode cX4_perform 68 = .ok (.aload_n 1, 1) := by decide +kernel
theorem dX4_perform_69 : decode cX4_perform 69 = .ok (.iconst 0, 1) := by decide +kernel
theorem dX4_perform_70 : decode cX4_perform 70 = .ok (.iaload, 1) := by decide +kernel
theorem dX4_perform_71 : decode cX4_perform 71 = .ok (.aload_n 1, 1) := by decide +kernel
theorem dX4_perform_72 : decode cX4_perform 72 = .ok (.iconst 1, 1) := by decide +kernel
theorem dX4_perform_73 : decode cX4_perform 73 = .ok (.iaload, 1) := by decide +kernel
theorem dX4_perform_74 : decode cX4_perform 74 = .ok (.aload_n 1, 1) := by decide +kernel
theorem dX4_perform_75 : decode cX4_perform 75 = .ok (.iconst 2, 1) := by decide +kernel
theorem dX4_perform_76 : decode cX4_perform 76 = .ok (.iaload, 1) := by decide +kernel
theorem dX4_perform_77 : decode cX4_perform 77 = .ok (.aload_n 1, 1) := by decide +kernel
theorem dX4_perform_78 : decode cX4_perform 78 = .ok (.iconst 3, 1) := by decide +kernel
theorem dX4_perform_79 : decode cX4_perform 79 = .ok (.iaload, 1) := by decide +kernel
theorem dX4_perform_80 : decode cX4_perform 80 = .ok (.invokevirtual 38, 3) := by decide +kernel
theorem dX4_perform_83 : decode cX4_perform 83 = .ok (.ireturn, 1) := by decide +kernel
theorem dX4_perform_84 : decode cX4_perform 84 = .ok (.aload_n 0, 1) := by decide +kernel
theorem dX4_perform_85 : decode cX4_perform 85 = .ok (.getfield 10, 3) := by decide +kernel
theorem dX4_perform_88 : decode cX4_perform 88 = .ok (.aload_n 1, 1) := by decide +kernel
theorem dX4_perform_89 : decode cX4_perform 89 = .ok (.iconst 0, 1) := by decide +kernel
theorem dX4_perform_90 : decode cX4_perform 90 = .ok (.iaload, 1) := by decide +kernel
theorem dX4_perform_91 : decode cX4_perform 91 = .ok (.aload_n 1, 1) := by decide +kernel
theorem dX4_perform_92 : decode cX4_perform 92 = .ok (.iconst 1, 1) := by decide +kernel
theorem dX4_perform_93 : decode cX4_perform 93 = .ok (.iaload, 1) := by decide +kernel
theorem dX4_perform_94 : decode cX4_perform 94 = .ok (.aload_n 1, 1) := by decide +kernel
theorem dX4_perform_95 : decode cX4_perform 95 = .ok (.iconst 2, 1) := by decide +kernel
theorem dX4_perform_96 : decode cX4_perform 96 = .ok (.iaload, 1) := by decide +kernel
theorem dX4_perform_97 : decode cX4_perform 97 = .ok (.aload_n 1, 1) := by decide +kernel
theorem dX4_perform_98 : decode cX4_perform 98 = .ok (.iconst 3, 1) := by decide +kernel
theorem dX4_perform_99 : decode cX4_perform 99 = .ok (.iaload, 1) := by decide +kernel
theorem dX4_perform_100 : decode cX4_perform 100 = .ok (.invokevirtual 46, 3) := by decide +kernel
theorem dX4_perform_103 : decode cX4_perform 103 = .ok (.ireturn, 1) := by decide +kernel
theorem dX4_perform_104 : decode cX4_perform 104 = .ok (.aload_n 0, 1) := by decide +kernel
theorem dX4_perform_105 : decode cX4_perform 105 = .ok (.getfield 10, 3) := by decide +kernel
theorem dX4_perform_108 : decode cX4_perform 108 = .ok (.iconst 0, 1) := by decide +kernel
theorem dX4_perform_109 : decode cX4_perform 109 = .ok (.aload_n 1, 1) := by decide +kernel
theorem dX4_perform_110 : decode cX4_perform 110 = .ok (.iconst 0, 1) := by decide +kernel
theorem dX4_perform_111 : decode cX4_perform 111 = .ok (.iaload, 1) := by decide +kernel
theorem dX4_perform_112 : decode cX4_perform 112 = .ok (.aload_n 1, 1) := by decide +kernel
theorem dX4_perform_113 : decode cX4_perform 113 = .ok (.iconst 1, 1) := by decide +kernel
theorem dX4_perform_114 : decode cX4_perform 114 = .ok (.iaload, 1) := by decide +kernel
theorem dX4_perform_115 : decode cX4_perform 115 = .ok (.invokevirtual 52, 3) := by decide +kernel
theorem dX4_perform_118 : decode cX4_perform 118 = .ok (.ireturn, 1) := by decide +kernel
theorem dX4_perform_119 : decode cX4_perform 119 = .ok (.aload_n 0, 1) := by decide +kernel
theorem dX4_perform_120 : decode cX4_perform 120 = .ok (.getfield 10, 3) := by decide +kernel
theorem dX4_perform_123 : decode cX4_perform 123 = .ok (.aload_n 1, 1) := by decide +kernel
theorem dX4_perform_124 : decode cX4_perform 124 = .ok (.iconst 0, 1) := by decide +kernel
theorem dX4_perform_125 : decode cX4_perform 125 = .ok (.iaload, 1) := by decide +kernel
theorem dX4_perform_126 : decode cX4_perform 126 = .ok (.invokevirtual 60, 3) := by decide +kernel
theorem dX4_perform_129 : decode cX4_perform 129 = .ok (.ireturn, 1) := by decide +kernel
theorem dX4_perform_130 : decode cX4_perform 130 = .ok (.aload_n 0, 1) := by decide +kernel
theorem dX4_perform_131 : decode cX4_perform 131 = .ok (.getfield 10, 3) := by decide +kernel
theorem dX4_perform_134 : decode cX4_perform 134 = .ok (.aload_n 0, 1) := by decide +kernel
theorem dX4_perform_135 : decode cX4_perform 135 = .ok (.getfield 10, 3) := by decide +kernel
theorem dX4_perform_138 : decode cX4_perform 138 = .ok (.iconst 0, 1) := by decide +kernel
theorem dX4_perform_139 : decode cX4_perform 139 = .ok (.invokevirtual 70, 3) := by decide +kernel
theorem dX4_perform_142 : decode cX4_perform 142 = .ok (.invokevirtual 73, 3) := by decide +kernel
theorem dX4_perform_145 : decode cX4_perform 145 = .ok (.ireturn, 1) := by decide +kernel
theorem dX4_perform_146 : decode cX4_perform 146 = .ok (.aload_n 0, 1) := by decide +kernel
theorem dX4_perform_147 : decode cX4_perform 147 = .ok (.getfield 10, 3) := by decide +kernel
theorem dX4_perform_150 : decode cX4_perform 150 = .ok (.aload_n 1, 1) := by decide +kernel
theorem dX4_perform_151 : decode cX4_perform 151 = .ok (.iconst 0, 1) := by decide +kernel
theorem dX4_perform_152 : decode cX4_perform 152 = .ok (.iaload, 1) := by decide +kernel
theorem dX4_perform_153 : decode cX4_perform 153 = .ok (.aload_n 1, 1) := by decide +kernel
theorem dX4_perform_154 : decode cX4_perform 154 = .ok (.iconst 1, 1) := by decide +kernel
theorem dX4_perform_155 : decode cX4_perform 155 = .ok (.iaload, 1) := by decide +kernel
theorem dX4_perform_156 : decode cX4_perform 156 = .ok (.invokevirtual 56, 3) := by decide +kernel
theorem dX4_perform_159 : decode cX4_perform 159 = .ok (.ireturn, 1) := by decide +kernel
theorem dX4_tally_0 : decode cX4_tally 0 = .ok (.iload_n 1, 1) := by decide +kernel
theorem dX4_tally_1 : decode cX4_tally 1 = .ok (.tableswitch 54 0 3 #[31, 36, 41, 46], 31) := by decide +kernel
theorem dX4_tally_32 : decode cX4_tally 32 = .ok (.aload_n 0, 1) := by decide +kernel
theorem dX4_tally_33 : decode cX4_tally 33 = .ok (.getfield 192, 3) := by decide +kernel
theorem dX4_tally_36 : decode cX4_tally 36 = .ok (.ireturn, 1) := by decide +kernel
theorem dX4_tally_37 : decode cX4_tally 37 = .ok (.aload_n 0, 1) := by decide +kernel
theorem dX4_tally_38 : decode cX4_tally 38 = .ok (.getfield 195, 3) := by decide +kernel
theorem dX4_tally_41 : decode cX4_tally 41 = .ok (.ireturn, 1) := by decide +kernel
theorem dX4_tally_42 : decode cX4_tally 42 = .ok (.aload_n 0, 1) := by decide +kernel
theorem dX4_tally_43 : decode cX4_tally 43 = .ok (.getfield 198, 3) := by decide +kernel
theorem dX4_tally_46 : decode cX4_tally 46 = .ok (.ireturn, 1) := by decide +kernel
theorem dX4_tally_47 : decode cX4_tally 47 = .ok (.aload_n 0, 1) := by decide +kernel
theorem dX4_tally_48 : decode cX4_tally 48 = .ok (.getfield 26, 3) := by decide +kernel
theorem dX4_tally_51 : decode cX4_tally 51 = .ok (.getfield 201, 3) := by decide +kernel
theorem dX4_tally_54 : decode cX4_tally 54 = .ok (.ireturn, 1) := by decide +kernel
theorem dX4_tally_55 : decode cX4_tally 55 = .ok (.aload_n 0, 1) := by decide +kernel
theorem dX4_tally_56 : decode cX4_tally 56 = .ok (.getfield 19, 3) := by decide +kernel
theorem dX4_tally_59 : decode cX4_tally 59 = .ok (.getfield 162, 3) := by decide +kernel
theorem dX4_tally_62 : decode cX4_tally 62 = .ok (.ireturn, 1) := by decide +kernel
set_option maxRecDepth 20000 in
theorem ggX4_changed_X4_isRefusal : GoodIn wsX4_changed wsX4_isRefusal := goodIn_r _ [5] (by decide +kernel) (by decide +kernel)
set_option maxRecDepth 20000 in
theorem gX4_changed_X4_isRefusal : GoodIn wsX4_changed (va_wsS RX4 153 yX4_isRefusal wsX4_isRefusal) := goodIn_app (goodIn_of _ (by decide +kernel)) ggX4_changed_X4_isRefusal
set_option maxRecDepth 20000 in
theorem ggX4_changed_X2_keep : GoodIn wsX4_changed wsX2_keep := goodIn_r _ [10, 11, 12, 13, 14, 15, 16, 30, 31] (by decide +kernel) (by decide +kernel)
set_option maxRecDepth 20000 in
theorem gX4_changed_X2_keep : GoodIn wsX4_changed (wsV RX4 159 RX2 yX2_keep wsX2_keep) := goodIn_app (goodIn_of _ (by decide +kernel)) ggX4_changed_X2_keep
set_option maxRecDepth 20000 in
theorem ggX4_changed_X4_answered : GoodIn wsX4_changed wsX4_answered := goodIn_r _ [20, 21, 22, 23, 24, 25, 26, 27, 28, 29] (by decide +kernel) (by decide +kernel)
set_option maxRecDepth 20000 in
theorem gX4_changed_X4_answered : GoodIn wsX4_changed (wsV RX4 80 RX4 yX4_answered wsX4_answered) := goodIn_app (goodIn_of _ (by decide +kernel)) ggX4_changed_X4_answered
theorem dX4_changed_0 : decode cX4_changed 0 = .ok (.iload_n 1, 1) := by decide +kernel
theorem dX4_changed_1 : decode cX4_changed 1 = .ok (.invokestatic 153, 3) := by decide +kernel
theorem dX4_changed_4 : decode cX4_changed 4 = .ok (.ifCond .ne 10, 3) := by decide +kernel
theorem dX4_changed_7 : decode cX4_changed 7 = .ok (.aload_n 0, 1) := by decide +kernel
theorem dX4_changed_8 : decode cX4_changed 8 = .ok (.getfield 19, 3) := by decide +kernel
theorem dX4_changed_11 : decode cX4_changed 11 = .ok (.invokevirtual 159, 3) := by decide +kernel
theorem dX4_changed_14 : decode cX4_changed 14 = .ok (.aload_n 0, 1) := by decide +kernel
theorem dX4_changed_15 : decode cX4_changed 15 = .ok (.iload_n 1, 1) := by decide +kernel
theorem dX4_changed_16 : decode cX4_changed 16 = .ok (.invokevirtual 80, 3) := by decide +kernel
theorem dX4_changed_19 : decode cX4_changed 19 = .ok (.ireturn, 1) := by decide +kernel
theorem dX4_answered_0 : decode cX4_answered 0 = .ok (.iload_n 1, 1) := by decide +kernel
theorem dX4_answered_1 : decode cX4_answered 1 = .ok (.sipush (-10002), 3) := by decide +kernel
theorem dX4_answered_4 : decode cX4_answered 4 = .ok (.if_icmp .ne 13, 3) := by decide +kernel
theorem dX4_answered_7 : decode cX4_answered 7 = .ok (.aload_n 0, 1) := by decide +kernel
theorem dX4_answered_8 : decode cX4_answered 8 = .ok (.dup, 1) := by decide +kernel
theorem dX4_answered_9 : decode cX4_answered 9 = .ok (.getfield 192, 3) := by decide +kernel
theorem dX4_answered_12 : decode cX4_answered 12 = .ok (.iconst 1, 1) := by decide +kernel
theorem dX4_answered_13 : decode cX4_answered 13 = .ok (.iadd, 1) := by decide +kernel
theorem dX4_answered_14 : decode cX4_answered 14 = .ok (.putfield 192, 3) := by decide +kernel
theorem dX4_answered_17 : decode cX4_answered 17 = .ok (.iload_n 1, 1) := by decide +kernel
theorem dX4_answered_18 : decode cX4_answered 18 = .ok (.sipush (-10003), 3) := by decide +kernel
theorem dX4_answered_21 : decode cX4_answered 21 = .ok (.if_icmp .ne 13, 3) := by decide +kernel
theorem dX4_answered_24 : decode cX4_answered 24 = .ok (.aload_n 0, 1) := by decide +kernel
theorem dX4_answered_25 : decode cX4_answered 25 = .ok (.dup, 1) := by decide +kernel
theorem dX4_answered_26 : decode cX4_answered 26 = .ok (.getfield 195, 3) := by decide +kernel
theorem dX4_answered_29 : decode cX4_answered 29 = .ok (.iconst 1, 1) := by decide +kernel
theorem dX4_answered_30 : decode cX4_answered 30 = .ok (.iadd, 1) := by decide +kernel
theorem dX4_answered_31 : decode cX4_answered 31 = .ok (.putfield 195, 3) := by decide +kernel
theorem dX4_answered_34 : decode cX4_answered 34 = .ok (.iload_n 1, 1) := by decide +kernel
theorem dX4_answered_35 : decode cX4_answered 35 = .ok (.sipush (-10004), 3) := by decide +kernel
theorem dX4_answered_38 : decode cX4_answered 38 = .ok (.if_icmp .ne 13, 3) := by decide +kernel
theorem dX4_answered_41 : decode cX4_answered 41 = .ok (.aload_n 0, 1) := by decide +kernel
theorem dX4_answered_42 : decode cX4_answered 42 = .ok (.dup, 1) := by decide +kernel
theorem dX4_answered_43 : decode cX4_answered 43 = .ok (.getfield 198, 3) := by decide +kernel
theorem dX4_answered_46 : decode cX4_answered 46 = .ok (.iconst 1, 1) := by decide +kernel
theorem dX4_answered_47 : decode cX4_answered 47 = .ok (.iadd, 1) := by decide +kernel
theorem dX4_answered_48 : decode cX4_answered 48 = .ok (.putfield 198, 3) := by decide +kernel
theorem dX4_answered_51 : decode cX4_answered 51 = .ok (.iload_n 1, 1) := by decide +kernel
theorem dX4_answered_52 : decode cX4_answered 52 = .ok (.ireturn, 1) := by decide +kernel
theorem dX4_isRefusal_0 : decode cX4_isRefusal 0 = .ok (.iload_n 0, 1) := by decide +kernel
theorem dX4_isRefusal_1 : decode cX4_isRefusal 1 = .ok (.sipush (-10002), 3) := by decide +kernel
theorem dX4_isRefusal_4 : decode cX4_isRefusal 4 = .ok (.if_icmp .eq 17, 3) := by decide +kernel
theorem dX4_isRefusal_7 : decode cX4_isRefusal 7 = .ok (.iload_n 0, 1) := by decide +kernel
theorem dX4_isRefusal_8 : decode cX4_isRefusal 8 = .ok (.sipush (-10003), 3) := by decide +kernel
theorem dX4_isRefusal_11 : decode cX4_isRefusal 11 = .ok (.if_icmp .eq 10, 3) := by decide +kernel
theorem dX4_isRefusal_14 : decode cX4_isRefusal 14 = .ok (.iload_n 0, 1) := by decide +kernel
theorem dX4_isRefusal_15 : decode cX4_isRefusal 15 = .ok (.sipush (-10004), 3) := by decide +kernel
theorem dX4_isRefusal_18 : decode cX4_isRefusal 18 = .ok (.if_icmp .ne 7, 3) := by decide +kernel
theorem dX4_isRefusal_21 : decode cX4_isRefusal 21 = .ok (.iconst 1, 1) := by decide +kernel
theorem dX4_isRefusal_22 : decode cX4_isRefusal 22 = .ok (.goto 4, 3) := by decide +kernel
theorem dX4_isRefusal_25 : decode cX4_isRefusal 25 = .ok (.iconst 0, 1) := by decide +kernel
theorem dX4_isRefusal_26 : decode cX4_isRefusal 26 = .ok (.ireturn, 1) := by decide +kernel
theorem dX4_isCourse_0 : decode cX4_isCourse 0 = .ok (.iload_n 0, 1) := by decide +kernel
theorem dX4_isCourse_1 : decode cX4_isCourse 1 = .ok (.ifCond .lt 23, 3) := by decide +kernel
theorem dX4_isCourse_4 : decode cX4_isCourse 4 = .ok (.iload_n 0, 1) := by decide +kernel
theorem dX4_isCourse_5 : decode cX4_isCourse 5 = .ok (.bipush 16, 2) := by decide +kernel
theorem dX4_isCourse_7 : decode cX4_isCourse 7 = .ok (.if_icmp .ge 17, 3) := by decide +kernel
theorem dX4_isCourse_10 : decode cX4_isCourse 10 = .ok (.iload_n 1, 1) := by decide +kernel
theorem dX4_isCourse_11 : decode cX4_isCourse 11 = .ok (.ifCond .lt 13, 3) := by decide +kernel
theorem dX4_isCourse_14 : decode cX4_isCourse 14 = .ok (.iload_n 1, 1) := by decide +kernel
theorem dX4_isCourse_15 : decode cX4_isCourse 15 = .ok (.bipush 9, 2) := by decide +kernel
theorem dX4_isCourse_17 : decode cX4_isCourse 17 = .ok (.if_icmp .gt 7, 3) := by decide +kernel
theorem dX4_isCourse_20 : decode cX4_isCourse 20 = .ok (.iconst 1, 1) := by decide +kernel
theorem dX4_isCourse_21 : decode cX4_isCourse 21 = .ok (.goto 4, 3) := by decide +kernel
theorem dX4_isCourse_24 : decode cX4_isCourse 24 = .ok (.iconst 0, 1) := by decide +kernel
theorem dX4_isCourse_25 : decode cX4_isCourse 25 = .ok (.ireturn, 1) := by decide +kernel
theorem dX5_init_0 : decode cX5_init 0 = .ok (.aload_n 0, 1) := by decide +kernel
theorem dX5_init_1 : decode cX5_init 1 = .ok (.invokespecial 1, 3) := by decide +kernel
theorem dX5_init_4 : decode cX5_init 4 = .ok (.aload_n 0, 1) := by decide +kernel
theorem dX5_init_5 : decode cX5_init 5 = .ok (.bipush 39, 2) := by decide +kernel
theorem dX5_init_7 : decode cX5_init 7 = .ok (.newarray .int, 2) := by decide +kernel
theorem dX5_init_9 : decode cX5_init 9 = .ok (.putfield 7, 3) := by decide +kernel
theorem dX5_init_12 : decode cX5_init 12 = .ok (.aload_n 0, 1) := by decide +kernel
theorem dX5_init_13 : decode cX5_init 13 = .ok (.bipush 39, 2) := by decide +kernel
theorem dX5_init_15 : decode cX5_init 15 = .ok (.newarray .int, 2) := by decide +kernel
theorem dX5_init_17 : decode cX5_init 17 = .ok (.putfield 13, 3) := by decide +kernel
theorem dX5_init_20 : decode cX5_init 20 = .ok (.aload_n 0, 1) := by decide +kernel
theorem dX5_init_21 : decode cX5_init 21 = .ok (.sipush 195, 3) := by decide +kernel
theorem dX5_init_24 : decode cX5_init 24 = .ok (.newarray .int, 2) := by decide +kernel
theorem dX5_init_26 : decode cX5_init 26 = .ok (.putfield 16, 3) := by decide +kernel
theorem dX5_init_29 : decode cX5_init 29 = .ok (.aload_n 0, 1) := by decide +kernel
theorem dX5_init_30 : decode cX5_init 30 = .ok (.iconst 3, 1) := by decide +kernel
theorem dX5_init_31 : decode cX5_init 31 = .ok (.newarray .int, 2) := by decide +kernel
theorem dX5_init_33 : decode cX5_init 33 = .ok (.putfield 19, 3) := by decide +kernel
theorem dX5_init_36 : decode cX5_init 36 = .ok (.aload_n 0, 1) := by decide +kernel
theorem dX5_init_37 : decode cX5_init 37 = .ok (.sipush 150, 3) := by decide +kernel
theorem dX5_init_40 : decode cX5_init 40 = .ok (.newarray .int, 2) := by decide +kernel
theorem dX5_init_42 : decode cX5_init 42 = .ok (.putfield 22, 3) := by decide +kernel
theorem dX5_init_45 : decode cX5_init 45 = .ok (.aload_n 0, 1) := by decide +kernel
theorem dX5_init_46 : decode cX5_init 46 = .ok (.bipush 75, 2) := by decide +kernel
theorem dX5_init_48 : decode cX5_init 48 = .ok (.newarray .int, 2) := by decide +kernel
theorem dX5_init_50 : decode cX5_init 50 = .ok (.putfield 25, 3) := by decide +kernel
theorem dX5_init_53 : decode cX5_init 53 = .ok (.aload_n 0, 1) := by decide +kernel
theorem dX5_init_54 : decode cX5_init 54 = .ok (.sipush 300, 3) := by decide +kernel
theorem dX5_init_57 : decode cX5_init 57 = .ok (.newarray .int, 2) := by decide +kernel
theorem dX5_init_59 : decode cX5_init 59 = .ok (.putfield 28, 3) := by decide +kernel
theorem dX5_init_62 : decode cX5_init 62 = .ok (.aload_n 0, 1) := by decide +kernel
theorem dX5_init_63 : decode cX5_init 63 = .ok (.getfield 7, 3) := by decide +kernel
theorem dX5_init_66 : decode cX5_init 66 = .ok (.iconst 0, 1) := by decide +kernel
theorem dX5_init_67 : decode cX5_init 67 = .ok (.iconst 1, 1) := by decide +kernel
theorem dX5_init_68 : decode cX5_init 68 = .ok (.iastore, 1) := by decide +kernel
theorem dX5_init_69 : decode cX5_init 69 = .ok (.aload_n 0, 1) := by decide +kernel
theorem dX5_init_70 : decode cX5_init 70 = .ok (.getfield 7, 3) := by decide +kernel
theorem dX5_init_73 : decode cX5_init 73 = .ok (.iconst 1, 1) := by decide +kernel
theorem dX5_init_74 : decode cX5_init 74 = .ok (.bipush 50, 2) := by decide +kernel
theorem dX5_init_76 : decode cX5_init 76 = .ok (.iastore, 1) := by decide +kernel
theorem dX5_init_77 : decode cX5_init 77 = .ok (.aload_n 0, 1) := by decide +kernel
theorem dX5_init_78 : decode cX5_init 78 = .ok (.getfield 7, 3) := by decide +kernel
theorem dX5_init_81 : decode cX5_init 81 = .ok (.iconst 2, 1) := by decide +kernel
theorem dX5_init_82 : decode cX5_init 82 = .ok (.bipush 12, 2) := by decide +kernel
theorem dX5_init_84 : decode cX5_init 84 = .ok (.iastore, 1) := by decide +kernel
theorem dX5_init_85 : decode cX5_init 85 = .ok (.return_, 1) := by decide +kernel
theorem dX5_in_0 : decode cX5_in 0 = .ok (.iload_n 0, 1) := by decide +kernel
theorem dX5_in_1 : decode cX5_in 1 = .ok (.iload_n 1, 1) := by decide +kernel
theorem dX5_in_2 : decode cX5_in 2 = .ok (.if_icmp .lt 12, 3) := by decide +kernel
theorem dX5_in_5 : decode cX5_in 5 = .ok (.iload_n 0, 1) := by decide +kernel
theorem dX5_in_6 : decode cX5_in 6 = .ok (.iload_n 2, 1) := by decide +kernel
theorem dX5_in_7 : decode cX5_in 7 = .ok (.if_icmp .gt 7, 3) := by decide +kernel
theorem dX5_in_10 : decode cX5_in 10 = .ok (.iconst 1, 1) := by decide +kernel
theorem dX5_in_11 : decode cX5_in 11 = .ok (.goto 4, 3) := by decide +kernel
theorem dX5_in_14 : decode cX5_in 14 = .ok (.iconst 0, 1) := by decide +kernel
theorem dX5_in_15 : decode cX5_in 15 = .ok (.ireturn, 1) := by decide +kernel
theorem dX5_refuses_0 : decode cX5_refuses 0 = .ok (.aload_n 0, 1) := by decide +kernel
theorem dX5_refuses_1 : decode cX5_refuses 1 = .ok (.getfield 19, 3) := by decide +kernel
theorem dX5_refuses_4 : decode cX5_refuses 4 = .ok (.sipush (-10002), 3) := by decide +kernel
theorem dX5_refuses_7 : decode cX5_refuses 7 = .ok (.iload_n 1, 1) := by decide +kernel
theorem dX5_refuses_8 : decode cX5_refuses 8 = .ok (.isub, 1) := by decide +kernel
theorem dX5_refuses_9 : decode cX5_refuses 9 = .ok (.dup2, 1) := by decide +kernel
theorem dX5_refuses_10 : decode cX5_refuses 10 = .ok (.iaload, 1) := by decide +kernel
theorem dX5_refuses_11 : decode cX5_refuses 11 = .ok (.iconst 1, 1) := by decide +kernel
theorem dX5_refuses_12 : decode cX5_refuses 12 = .ok (.iadd, 1) := by decide +kernel
theorem dX5_refuses_13 : decode cX5_refuses 13 = .ok (.iastore, 1) := by decide +kernel
theorem dX5_refuses_14 : decode cX5_refuses 14 = .ok (.iload_n 1, 1) := by decide +kernel
theorem dX5_refuses_15 : decode cX5_refuses 15 = .ok (.ireturn, 1) := by decide +kernel
theorem dX5_laysAside_0 : decode cX5_laysAside 0 = .ok (.iconst 0, 1) := by decide +kernel
theorem dX5_laysAside_1 : decode cX5_laysAside 1 = .ok (.istore_n 1, 1) := by decide +kernel
theorem dX5_laysAside_2 : decode cX5_laysAside 2 = .ok (.iload_n 1, 1) := by decide +kernel
theorem dX5_laysAside_3 : decode cX5_laysAside 3 = .ok (.bipush 39, 2) := by decide +kernel
theorem dX5_laysAside_5 : decode cX5_laysAside 5 = .ok (.if_icmp .ge 21, 3) := by decide +kernel
theorem dX5_laysAside_8 : decode cX5_laysAside 8 = .ok (.aload_n 0, 1) := by decide +kernel
theorem dX5_laysAside_9 : decode cX5_laysAside 9 = .ok (.getfield 13, 3) := by decide +kernel
theorem dX5_laysAside_12 : decode cX5_laysAside 12 = .ok (.iload_n 1, 1) := by decide +kernel
theorem dX5_laysAside_13 : decode cX5_laysAside 13 = .ok (.aload_n 0, 1) := by decide +kernel
theorem dX5_laysAside_14 : decode cX5_laysAside 14 = .ok (.getfield 7, 3) := by decide +kernel
theorem dX5_laysAside_17 : decode cX5_laysAside 17 = .ok (.iload_n 1, 1) := by decide +kernel
theorem dX5_laysAside_18 : decode cX5_laysAside 18 = .ok (.iaload, 1) := by decide +kernel
theorem dX5_laysAside_19 : decode cX5_laysAside 19 = .ok (.iastore, 1) := by decide +kernel
theorem dX5_laysAside_20 : decode cX5_laysAside 20 = .ok (.iinc 1 1, 3) := by decide +kernel
theorem dX5_laysAside_23 : decode cX5_laysAside 23 = .ok (.goto (-21), 3) := by decide +kernel
theorem dX5_laysAside_26 : decode cX5_laysAside 26 = .ok (.return_, 1) := by decide +kernel
theorem dX5_remembers_0 : decode cX5_remembers 0 = .ok (.aload_n 0, 1) := by decide +kernel
theorem dX5_remembers_1 : decode cX5_remembers 1 = .ok (.getfield 31, 3) := by decide +kernel
theorem dX5_remembers_4 : decode cX5_remembers 4 = .ok (.iconst 5, 1) := by decide +kernel
theorem dX5_remembers_5 : decode cX5_remembers 5 = .ok (.if_icmp .ne 43, 3) := by decide +kernel
theorem dX5_remembers_8 : decode cX5_remembers 8 = .ok (.iconst 0, 1) := by decide +kernel
theorem dX5_remembers_9 : decode cX5_remembers 9 = .ok (.istore_n 1, 1) := by decide +kernel
theorem dX5_remembers_10 : decode cX5_remembers 10 = .ok (.iload_n 1, 1) := by decide +kernel
theorem dX5_remembers_11 : decode cX5_remembers 11 = .ok (.sipush 156, 3) := by decide +kernel
theorem dX5_remembers_14 : decode cX5_remembers 14 = .ok (.if_icmp .ge 24, 3) := by decide +kernel
theorem dX5_remembers_17 : decode cX5_remembers 17 = .ok (.aload_n 0, 1) := by decide +kernel
theorem dX5_remembers_18 : decode cX5_remembers 18 = .ok (.getfield 16, 3) := by decide +kernel
theorem dX5_remembers_21 : decode cX5_remembers 21 = .ok (.iload_n 1, 1) := by decide +kernel
theorem dX5_remembers_22 : decode cX5_remembers 22 = .ok (.aload_n 0, 1) := by decide +kernel
theorem dX5_remembers_23 : decode cX5_remembers 23 = .ok (.getfield 16, 3) := by decide +kernel
theorem dX5_remembers_26 : decode cX5_remembers 26 = .ok (.iload_n 1, 1) := by decide +kernel
theorem dX5_remembers_27 : decode cX5_remembers 27 = .ok (.bipush 39, 2) := by decide +kernel
theorem dX5_remembers_29 : decode cX5_remembers 29 = .ok (.iadd, 1) := by decide +kernel
theorem dX5_remembers_30 : decode cX5_remembers 30 = .ok (.iaload, 1) := by decide +kernel
theorem dX5_remembers_31 : decode cX5_remembers 31 = .ok (.iastore, 1) := by decide +kernel
theorem dX5_remembers_32 : decode cX5_remembers 32 = .ok (.iinc 1 1, 3) := by decide +kernel
theorem dX5_remembers_35 : decode cX5_remembers 35 = .ok (.goto (-25), 3) := by decide +kernel
theorem dX5_remembers_38 : decode cX5_remembers 38 = .ok (.aload_n 0, 1) := by decide +kernel
theorem dX5_remembers_39 : decode cX5_remembers 39 = .ok (.dup, 1) := by decide +kernel
theorem dX5_remembers_40 : decode cX5_remembers 40 = .ok (.getfield 31, 3) := by decide +kernel
theorem dX5_remembers_43 : decode cX5_remembers 43 = .ok (.iconst 1, 1) := by decide +kernel
theorem dX5_remembers_44 : decode cX5_remembers 44 = .ok (.isub, 1) := by decide +kernel
theorem dX5_remembers_45 : decode cX5_remembers 45 = .ok (.putfield 31, 3) := by decide +kernel
theorem dX5_remembers_48 : decode cX5_remembers 48 = .ok (.iconst 0, 1) := by decide +kernel
theorem dX5_remembers_49 : decode cX5_remembers 49 = .ok (.istore_n 1, 1) := by decide +kernel
theorem dX5_remembers_50 : decode cX5_remembers 50 = .ok (.iload_n 1, 1) := by decide +kernel
theorem dX5_remembers_51 : decode cX5_remembers 51 = .ok (.bipush 39, 2) := by decide +kernel
theorem dX5_remembers_53 : decode cX5_remembers 53 = .ok (.if_icmp .ge 29, 3) := by decide +kernel
theorem dX5_remembers_56 : decode cX5_remembers 56 = .ok (.aload_n 0, 1) := by decide +kernel
theorem dX5_remembers_57 : decode cX5_remembers 57 = .ok (.getfield 16, 3) := by decide +kernel
theorem dX5_remembers_60 : decode cX5_remembers 60 = .ok (.bipush 39, 2) := by decide +kernel
theorem dX5_remembers_62 : decode cX5_remembers 62 = .ok (.aload_n 0, 1) := by decide +kernel
theorem dX5_remembers_63 : decode cX5_remembers 63 = .ok (.getfield 31, 3) := by decide +kernel
theorem dX5_remembers_66 : decode cX5_remembers 66 = .ok (.imul, 1) := by decide +kernel
theorem dX5_remembers_67 : decode cX5_remembers 67 = .ok (.iload_n 1, 1) := by decide +kernel
theorem dX5_remembers_68 : decode cX5_remembers 68 = .ok (.iadd, 1) := by decide +kernel
theorem dX5_remembers_69 : decode cX5_remembers 69 = .ok (.aload_n 0, 1) := by decide +kernel
theorem dX5_remembers_70 : decode cX5_remembers 70 = .ok (.getfield 13, 3) := by decide +kernel
theorem dX5_remembers_73 : decode cX5_remembers 73 = .ok (.iload_n 1, 1) := by decide +kernel
theorem dX5_remembers_74 : decode cX5_remembers 74 = .ok (.iaload, 1) := by decide +kernel
theorem dX5_remembers_75 : decode cX5_remembers 75 = .ok (.iastore, 1) := by decide +kernel
theorem dX5_remembers_76 : decode cX5_remembers 76 = .ok (.iinc 1 1, 3) := by decide +kernel
theorem dX5_remembers_79 : decode cX5_remembers 79 = .ok (.goto (-29), 3) := by decide +kernel
theorem dX5_remembers_82 : decode cX5_remembers 82 = .ok (.aload_n 0, 1) := by decide +kernel
theorem dX5_remembers_83 : decode cX5_remembers 83 = .ok (.dup, 1) := by decide +kernel
theorem dX5_remembers_84 : decode cX5_remembers 84 = .ok (.getfield 31, 3) := by decide +kernel
theorem dX5_remembers_87 : decode cX5_remembers 87 = .ok (.iconst 1, 1) := by decide +kernel
theorem dX5_remembers_88 : decode cX5_remembers 88 = .ok (.iadd, 1) := by decide +kernel
theorem dX5_remembers_89 : decode cX5_remembers 89 = .ok (.putfield 31, 3) := by decide +kernel
theorem dX5_remembers_92 : decode cX5_remembers 92 = .ok (.return_, 1) := by decide +kernel
set_option maxRecDepth 20000 in
theorem ggX5_back_X5_refuses : GoodIn wsX5_back wsX5_refuses := goodIn_r _ [8, 9, 10, 11, 12, 13, 14, 15, 16, 17, 18, 19, 20, 21, 22, 23, 24, 25, 26, 27, 28, 29, 30] (by decide +kernel) (by decide +kernel)
set_option maxRecDepth 20000 in
theorem gX5_back_X5_refuses : GoodIn wsX5_back (wsV RX5 35 RX5 yX5_refuses wsX5_refuses) := goodIn_app (goodIn_of _ (by decide +kernel)) ggX5_back_X5_refuses
theorem dX5_back_0 : decode cX5_back 0 = .ok (.aload_n 0, 1) := by decide +kernel
theorem dX5_back_1 : decode cX5_back 1 = .ok (.getfield 31, 3) := by decide +kernel
theorem dX5_back_4 : decode cX5_back 4 = .ok (.ifCond .ne 11, 3) := by decide +kernel
theorem dX5_back_7 : decode cX5_back 7 = .ok (.aload_n 0, 1) := by decide +kernel
theorem dX5_back_8 : decode cX5_back 8 = .ok (.sipush (-10003), 3) := by decide +kernel
theorem dX5_back_11 : decode cX5_back 11 = .ok (.invokevirtual 35, 3) := by decide +kernel
theorem dX5_back_14 : decode cX5_back 14 = .ok (.ireturn, 1) := by decide +kernel
theorem dX5_back_15 : decode cX5_back 15 = .ok (.aload_n 0, 1) := by decide +kernel
theorem dX5_back_16 : decode cX5_back 16 = .ok (.dup, 1) := by decide +kernel
theorem dX5_back_17 : decode cX5_back 17 = .ok (.getfield 31, 3) := by decide +kernel
theorem dX5_back_20 : decode cX5_back 20 = .ok (.iconst 1, 1) := by decide +kernel
theorem dX5_back_21 : decode cX5_back 21 = .ok (.isub, 1) := by decide +kernel
theorem dX5_back_22 : decode cX5_back 22 = .ok (.putfield 31, 3) := by decide +kernel
theorem dX5_back_25 : decode cX5_back 25 = .ok (.iconst 0, 1) := by decide +kernel
theorem dX5_back_26 : decode cX5_back 26 = .ok (.istore_n 1, 1) := by decide +kernel
theorem dX5_back_27 : decode cX5_back 27 = .ok (.iload_n 1, 1) := by decide +kernel
theorem dX5_back_28 : decode cX5_back 28 = .ok (.bipush 39, 2) := by decide +kernel
theorem dX5_back_30 : decode cX5_back 30 = .ok (.if_icmp .ge 29, 3) := by decide +kernel
theorem dX5_back_33 : decode cX5_back 33 = .ok (.aload_n 0, 1) := by decide +kernel
theorem dX5_back_34 : decode cX5_back 34 = .ok (.getfield 7, 3) := by decide +kernel
theorem dX5_back_37 : decode cX5_back 37 = .ok (.iload_n 1, 1) := by decide +kernel
theorem dX5_back_38 : decode cX5_back 38 = .ok (.aload_n 0, 1) := by decide +kernel
theorem dX5_back_39 : decode cX5_back 39 = .ok (.getfield 16, 3) := by decide +kernel
theorem dX5_back_42 : decode cX5_back 42 = .ok (.bipush 39, 2) := by decide +kernel
theorem dX5_back_44 : decode cX5_back 44 = .ok (.aload_n 0, 1) := by decide +kernel
theorem dX5_back_45 : decode cX5_back 45 = .ok (.getfield 31, 3) := by decide +kernel
theorem dX5_back_48 : decode cX5_back 48 = .ok (.imul, 1) := by decide +kernel
theorem dX5_back_49 : decode cX5_back 49 = .ok (.iload_n 1, 1) := by decide +kernel
theorem dX5_back_50 : decode cX5_back 50 = .ok (.iadd, 1) := by decide +kernel
theorem dX5_back_51 : decode cX5_back 51 = .ok (.iaload, 1) := by decide +kernel
theorem dX5_back_52 : decode cX5_back 52 = .ok (.iastore, 1) := by decide +kernel
theorem dX5_back_53 : decode cX5_back 53 = .ok (.iinc 1 1, 3) := by decide +kernel
theorem dX5_back_56 : decode cX5_back 56 = .ok (.goto (-29), 3) := by decide +kernel
theorem dX5_back_59 : decode cX5_back 59 = .ok (.aload_n 0, 1) := by decide +kernel
theorem dX5_back_60 : decode cX5_back 60 = .ok (.getfield 31, 3) := by decide +kernel
theorem dX5_back_63 : decode cX5_back 63 = .ok (.ireturn, 1) := by decide +kernel
set_option maxRecDepth 20000 in
theorem ggX5_finished_X5_refuses : GoodIn wsX5_finished wsX5_refuses := goodIn_r _ [5, 6, 14, 15, 16, 17, 18, 19, 20, 21, 22, 23, 24, 25, 26, 27, 28, 29, 30, 31, 32, 33, 34] (by decide +kernel) (by decide +kernel)
set_option maxRecDepth 20000 in
theorem gX5_finished_X5_refuses : GoodIn wsX5_finished (wsV RX5 35 RX5 yX5_refuses wsX5_refuses) := goodIn_app (goodIn_of _ (by decide +kernel)) ggX5_finished_X5_refuses
set_option maxRecDepth 20000 in
theorem ggX5_finished_X5_remembers : GoodIn wsX5_finished wsX5_remembers := goodIn_r _ [10, 11, 12, 13, 14, 15, 16, 17, 18, 19, 20, 21, 22, 23, 24, 25, 26, 27, 28, 29, 30, 31, 32, 33, 34] (by decide +kernel) (by decide +kernel)
set_option maxRecDepth 20000 in
theorem gX5_finished_X5_remembers : GoodIn wsX5_finished (wsV RX5 39 RX5 yX5_remembers wsX5_remembers) := goodIn_app (goodIn_of _ (by decide +kernel)) ggX5_finished_X5_remembers
theorem dX5_finished_0 : decode cX5_finished 0 = .ok (.iload_n 1, 1) := by decide +kernel
theorem dX5_finished_1 : decode cX5_finished 1 = .ok (.sipush (-10002), 3) := by decide +kernel
theorem dX5_finished_4 : decode cX5_finished 4 = .ok (.if_icmp .gt 9, 3) := by decide +kernel
theorem dX5_finished_7 : decode cX5_finished 7 = .ok (.aload_n 0, 1) := by decide +kernel
theorem dX5_finished_8 : decode cX5_finished 8 = .ok (.iload_n 1, 1) := by decide +kernel
theorem dX5_finished_9 : decode cX5_finished 9 = .ok (.invokevirtual 35, 3) := by decide +kernel
theorem dX5_finished_12 : decode cX5_finished 12 = .ok (.ireturn, 1) := by decide +kernel
theorem dX5_finished_13 : decode cX5_finished 13 = .ok (.aload_n 0, 1) := by decide +kernel
theorem dX5_finished_14 : decode cX5_finished 14 = .ok (.invokevirtual 39, 3) := by decide +kernel
theorem dX5_finished_17 : decode cX5_finished 17 = .ok (.iload_n 1, 1) := by decide +kernel
theorem dX5_finished_18 : decode cX5_finished 18 = .ok (.ireturn, 1) := by decide +kernel
theorem dX5_shipOf_0 : decode cX5_shipOf 0 = .ok (.aload_n 0, 1) := by decide +kernel
theorem dX5_shipOf_1 : decode cX5_shipOf 1 = .ok (.getfield 7, 3) := by decide +kernel
theorem dX5_shipOf_4 : decode cX5_shipOf 4 = .ok (.iconst 4, 1) := by decide +kernel
theorem dX5_shipOf_5 : decode cX5_shipOf 5 = .ok (.iconst 5, 1) := by decide +kernel
theorem dX5_shipOf_6 : decode cX5_shipOf 6 = .ok (.iload_n 1, 1) := by decide +kernel
theorem dX5_shipOf_7 : decode cX5_shipOf 7 = .ok (.imul, 1) := by decide +kernel
theorem dX5_shipOf_8 : decode cX5_shipOf 8 = .ok (.iadd, 1) := by decide +kernel
theorem dX5_shipOf_9 : decode cX5_shipOf 9 = .ok (.iload_n 2, 1) := by decide +kernel
theorem dX5_shipOf_10 : decode cX5_shipOf 10 = .ok (.iadd, 1) := by decide +kernel
theorem dX5_shipOf_11 : decode cX5_shipOf 11 = .ok (.iaload, 1) := by decide +kernel
theorem dX5_shipOf_12 : decode cX5_shipOf 12 = .ok (.ireturn, 1) := by decide +kernel
theorem dX5_tells_0 : decode cX5_tells 0 = .ok (.aload_n 0, 1) := by decide +kernel
theorem dX5_tells_1 : decode cX5_tells 1 = .ok (.getfield 7, 3) := by decide +kernel
theorem dX5_tells_4 : decode cX5_tells 4 = .ok (.iconst 4, 1) := by decide +kernel
theorem dX5_tells_5 : decode cX5_tells 5 = .ok (.iconst 5, 1) := by decide +kernel
theorem dX5_tells_6 : decode cX5_tells 6 = .ok (.iload_n 1, 1) := by decide +kernel
theorem dX5_tells_7 : decode cX5_tells 7 = .ok (.imul, 1) := by decide +kernel
theorem dX5_tells_8 : decode cX5_tells 8 = .ok (.iadd, 1) := by decide +kernel
theorem dX5_tells_9 : decode cX5_tells 9 = .ok (.iload_n 2, 1) := by decide +kernel
theorem dX5_tells_10 : decode cX5_tells 10 = .ok (.iadd, 1) := by decide +kernel
theorem dX5_tells_11 : decode cX5_tells 11 = .ok (.iload_n 3, 1) := by decide +kernel
theorem dX5_tells_12 : decode cX5_tells 12 = .ok (.iastore, 1) := by decide +kernel
theorem dX5_tells_13 : decode cX5_tells 13 = .ok (.return_, 1) := by decide +kernel
set_option maxRecDepth 20000 in
theorem ggX5_isShip_X5_in : GoodIn wsX5_isShip wsX5_in := goodIn_r _ [5] (by decide +kernel) (by decide +kernel)
set_option maxRecDepth 20000 in
theorem gX5_isShip_X5_in : GoodIn wsX5_isShip (va_wsS RX5 42 yX5_in wsX5_in) := goodIn_app (goodIn_of _ (by decide +kernel)) ggX5_isShip_X5_in
theorem dX5_isShip_0 : decode cX5_isShip 0 = .ok (.iload_n 1, 1) := by decide +kernel
theorem dX5_isShip_1 : decode cX5_isShip 1 = .ok (.iconst 0, 1) := by decide +kernel
theorem dX5_isShip_2 : decode cX5_isShip 2 = .ok (.aload_n 0, 1) := by decide +kernel
theorem dX5_isShip_3 : decode cX5_isShip 3 = .ok (.getfield 7, 3) := by decide +kernel
theorem dX5_isShip_6 : decode cX5_isShip 6 = .ok (.iconst 0, 1) := by decide +kernel
theorem dX5_isShip_7 : decode cX5_isShip 7 = .ok (.iaload, 1) := by decide +kernel
theorem dX5_isShip_8 : decode cX5_isShip 8 = .ok (.iconst 1, 1) := by decide +kernel
theorem dX5_isShip_9 : decode cX5_isShip 9 = .ok (.isub, 1) := by decide +kernel
theorem dX5_isShip_10 : decode cX5_isShip 10 = .ok (.invokestatic 42, 3) := by decide +kernel
theorem dX5_isShip_13 : decode cX5_isShip 13 = .ok (.ireturn, 1) := by decide +kernel
set_option maxRecDepth 20000 in
theorem ggX5_isOther_X5_isShip : GoodIn wsX5_isOther wsX5_isShip := goodIn_r _ [5, 6, 7, 8, 4, 9, 10, 11, 12, 13, 14, 15, 16, 17, 18, 19, 20, 21, 22, 23, 24, 25, 26, 27, 28, 29, 30] (by decide +kernel) (by decide +kernel)
set_option maxRecDepth 20000 in
theorem gX5_isOther_X5_isShip : GoodIn wsX5_isOther (wsV RX5 46 RX5 yX5_isShip wsX5_isShip) := goodIn_app (goodIn_of _ (by decide +kernel)) ggX5_isOther_X5_isShip
theorem dX5_isOther_0 : decode cX5_isOther 0 = .ok (.iload_n 1, 1) := by decide +kernel
theorem dX5_isOther_1 : decode cX5_isOther 1 = .ok (.ifCond .le 15, 3) := by decide +kernel
theorem dX5_isOther_4 : decode cX5_isOther 4 = .ok (.aload_n 0, 1) := by decide +kernel
theorem dX5_isOther_5 : decode cX5_isOther 5 = .ok (.iload_n 1, 1) := by decide +kernel
theorem dX5_isOther_6 : decode cX5_isOther 6 = .ok (.invokevirtual 46, 3) := by decide +kernel
theorem dX5_isOther_9 : decode cX5_isOther 9 = .ok (.ifCond .eq 7, 3) := by decide +kernel
theorem dX5_isOther_12 : decode cX5_isOther 12 = .ok (.iconst 1, 1) := by decide +kernel
theorem dX5_isOther_13 : decode cX5_isOther 13 = .ok (.goto 4, 3) := by decide +kernel
theorem dX5_isOther_16 : decode cX5_isOther 16 = .ok (.iconst 0, 1) := by decide +kernel
theorem dX5_isOther_17 : decode cX5_isOther 17 = .ok (.ireturn, 1) := by decide +kernel
set_option maxRecDepth 20000 in
theorem ggX5_isCourse_X5_in : GoodIn wsX5_isCourse wsX5_in := goodIn_r _ [4] (by decide +kernel) (by decide +kernel)
set_option maxRecDepth 20000 in
theorem gX5_isCourse_X5_in : GoodIn wsX5_isCourse (va_wsS RX5 42 yX5_in wsX5_in) := goodIn_app (goodIn_of _ (by decide +kernel)) ggX5_isCourse_X5_in
theorem dX5_isCourse_0 : decode cX5_isCourse 0 = .ok (.iload_n 0, 1) := by decide +kernel
theorem dX5_isCourse_1 : decode cX5_isCourse 1 = .ok (.iconst 0, 1) := by decide +kernel
theorem dX5_isCourse_2 : decode cX5_isCourse 2 = .ok (.bipush 15, 2) := by decide +kernel
theorem dX5_isCourse_4 : decode cX5_isCourse 4 = .ok (.invokestatic 42, 3) := by decide +kernel
theorem dX5_isCourse_7 : decode cX5_isCourse 7 = .ok (.ifCond .eq 17, 3) := by decide +kernel
theorem dX5_isCourse_10 : decode cX5_isCourse 10 = .ok (.iload_n 1, 1) := by decide +kernel
theorem dX5_isCourse_11 : decode cX5_isCourse 11 = .ok (.iconst 0, 1) := by decide +kernel
theorem dX5_isCourse_12 : decode cX5_isCourse 12 = .ok (.bipush 9, 2) := by decide +kernel
theorem dX5_isCourse_14 : decode cX5_isCourse 14 = .ok (.invokestatic 42, 3) := by decide +kernel
theorem dX5_isCourse_17 : decode cX5_isCourse 17 = .ok (.ifCond .eq 7, 3) := by decide +kernel
theorem dX5_isCourse_20 : decode cX5_isCourse 20 = .ok (.iconst 1, 1) := by decide +kernel
theorem dX5_isCourse_21 : decode cX5_isCourse 21 = .ok (.goto 4, 3) := by decide +kernel
theorem dX5_isCourse_24 : decode cX5_isCourse 24 = .ok (.iconst 0, 1) := by decide +kernel
theorem dX5_isCourse_25 : decode cX5_isCourse 25 = .ok (.ireturn, 1) := by decide +kernel
set_option maxRecDepth 20000 in
theorem ggX5_isPlace_X5_in : GoodIn wsX5_isPlace wsX5_in := goodIn_r _ [4] (by decide +kernel) (by decide +kernel)
set_option maxRecDepth 20000 in
theorem gX5_isPlace_X5_in : GoodIn wsX5_isPlace (va_wsS RX5 42 yX5_in wsX5_in) := goodIn_app (goodIn_of _ (by decide +kernel)) ggX5_isPlace_X5_in
theorem dX5_isPlace_0 : decode cX5_isPlace 0 = .ok (.iload_n 0, 1) := by decide +kernel
theorem dX5_isPlace_1 : decode cX5_isPlace 1 = .ok (.sipush (-9999), 3) := by decide +kernel
theorem dX5_isPlace_4 : decode cX5_isPlace 4 = .ok (.sipush 9999, 3) := by decide +kernel
theorem dX5_isPlace_7 : decode cX5_isPlace 7 = .ok (.invokestatic 42, 3) := by decide +kernel
theorem dX5_isPlace_10 : decode cX5_isPlace 10 = .ok (.ifCond .eq 20, 3) := by decide +kernel
theorem dX5_isPlace_13 : decode cX5_isPlace 13 = .ok (.iload_n 1, 1) := by decide +kernel
theorem dX5_isPlace_14 : decode cX5_isPlace 14 = .ok (.sipush (-9999), 3) := by decide +kernel
theorem dX5_isPlace_17 : decode cX5_isPlace 17 = .ok (.sipush 9999, 3) := by decide +kernel
theorem dX5_isPlace_20 : decode cX5_isPlace 20 = .ok (.invokestatic 42, 3) := by decide +kernel
theorem dX5_isPlace_23 : decode cX5_isPlace 23 = .ok (.ifCond .eq 7, 3) := by decide +kernel
theorem dX5_isPlace_26 : decode cX5_isPlace 26 = .ok (.iconst 1, 1) := by decide +kernel
theorem dX5_isPlace_27 : decode cX5_isPlace 27 = .ok (.goto 4, 3) := by decide +kernel
theorem dX5_isPlace_30 : decode cX5_isPlace 30 = .ok (.iconst 0, 1) := by decide +kernel
theorem dX5_isPlace_31 : decode cX5_isPlace 31 = .ok (.ireturn, 1) := by decide +kernel
theorem dX5_northOf_0 : decode cX5_northOf 0 = .ok (.iload_n 0, 1) := by decide +kernel
theorem dX5_northOf_1 : decode cX5_northOf 1 = .ok (.bipush 8, 2) := by decide +kernel
theorem dX5_northOf_3 : decode cX5_northOf 3 = .ok (.if_icmp .le 10, 3) := by decide +kernel
theorem dX5_northOf_6 : decode cX5_northOf 6 = .ok (.bipush 16, 2) := by decide +kernel
theorem dX5_northOf_8 : decode cX5_northOf 8 = .ok (.iload_n 0, 1) := by decide +kernel
theorem dX5_northOf_9 : decode cX5_northOf 9 = .ok (.isub, 1) := by decide +kernel
theorem dX5_northOf_10 : decode cX5_northOf 10 = .ok (.goto 4, 3) := by decide +kernel
theorem dX5_northOf_13 : decode cX5_northOf 13 = .ok (.iload_n 0, 1) := by decide +kernel
theorem dX5_northOf_14 : decode cX5_northOf 14 = .ok (.istore_n 1, 1) := by decide +kernel
theorem dX5_northOf_15 : decode cX5_northOf 15 = .ok (.iload_n 1, 1) := by decide +kernel
theorem dX5_northOf_16 : decode cX5_northOf 16 = .ok (.iconst 4, 1) := by decide +kernel
theorem dX5_northOf_17 : decode cX5_northOf 17 = .ok (.if_icmp .le 10, 3) := by decide +kernel
theorem dX5_northOf_20 : decode cX5_northOf 20 = .ok (.bipush 8, 2) := by decide +kernel
theorem dX5_northOf_22 : decode cX5_northOf 22 = .ok (.iload_n 1, 1) := by decide +kernel
theorem dX5_northOf_23 : decode cX5_northOf 23 = .ok (.isub, 1) := by decide +kernel
theorem dX5_northOf_24 : decode cX5_northOf 24 = .ok (.goto 4, 3) := by decide +kernel
theorem dX5_northOf_27 : decode cX5_northOf 27 = .ok (.iload_n 1, 1) := by decide +kernel
theorem dX5_northOf_28 : decode cX5_northOf 28 = .ok (.istore_n 2, 1) := by decide +kernel
theorem dX5_northOf_29 : decode cX5_northOf 29 = .ok (.iload_n 2, 1) := by decide +kernel
theorem dX5_northOf_30 : decode cX5_northOf 30 = .ok (.ifCond .ne 8, 3) := by decide +kernel
theorem dX5_northOf_33 : decode cX5_northOf 33 = .ok (.bipush 10, 2) := by decide +kernel
theorem dX5_northOf_35 : decode cX5_northOf 35 = .ok (.goto 33, 3) := by decide +kernel
theorem dX5_northOf_38 : decode cX5_northOf 38 = .ok (.iload_n 2, 1) := by decide +kernel
theorem dX5_northOf_39 : decode cX5_northOf 39 = .ok (.iconst 1, 1) := by decide +kernel
theorem dX5_northOf_40 : decode cX5_northOf 40 = .ok (.if_icmp .ne 8, 3) := by decide +kernel
theorem dX5_northOf_43 : decode cX5_northOf 43 = .ok (.bipush 9, 2) := by decide +kernel
theorem dX5_northOf_45 : decode cX5_northOf 45 = .ok (.goto 23, 3) := by decide +kernel
theorem dX5_northOf_48 : decode cX5_northOf 48 = .ok (.iload_n 2, 1) := by decide +kernel
theorem dX5_northOf_49 : decode cX5_northOf 49 = .ok (.iconst 2, 1) := by decide +kernel
theorem dX5_northOf_50 : decode cX5_northOf 50 = .ok (.if_icmp .ne 8, 3) := by decide +kernel
theorem dX5_northOf_53 : decode cX5_northOf 53 = .ok (.bipush 7, 2) := by decide +kernel
theorem dX5_northOf_55 : decode cX5_northOf 55 = .ok (.goto 13, 3) := by decide +kernel
theorem dX5_northOf_58 : decode cX5_northOf 58 = .ok (.iload_n 2, 1) := by decide +kernel
theorem dX5_northOf_59 : decode cX5_northOf 59 = .ok (.iconst 3, 1) := by decide +kernel
theorem dX5_northOf_60 : decode cX5_northOf 60 = .ok (.if_icmp .ne 7, 3) := by decide +kernel
theorem dX5_northOf_63 : decode cX5_northOf 63 = .ok (.iconst 4, 1) := by decide +kernel
theorem dX5_northOf_64 : decode cX5_northOf 64 = .ok (.goto 4, 3) := by decide +kernel
theorem dX5_northOf_67 : decode cX5_northOf 67 = .ok (.iconst 0, 1) := by decide +kernel
theorem dX5_northOf_68 : decode cX5_northOf 68 = .ok (.istore_n 3, 1) := by decide +kernel
theorem dX5_northOf_69 : decode cX5_northOf 69 = .ok (.iload_n 1, 1) := by decide +kernel
theorem dX5_northOf_70 : decode cX5_northOf 70 = .ok (.iconst 4, 1) := by decide +kernel
theorem dX5_northOf_71 : decode cX5_northOf 71 = .ok (.if_icmp .le 8, 3) := by decide +kernel
theorem dX5_northOf_74 : decode cX5_northOf 74 = .ok (.iload_n 3, 1) := by decide +kernel
theorem dX5_northOf_75 : decode cX5_northOf 75 = .ok (.ineg, 1) := by decide +kernel
theorem dX5_northOf_76 : decode cX5_northOf 76 = .ok (.goto 4, 3) := by decide +kernel
theorem dX5_northOf_79 : decode cX5_northOf 79 = .ok (.iload_n 3, 1) := by decide +kernel
theorem dX5_northOf_80 : decode cX5_northOf 80 = .ok (.ireturn, 1) := by decide +kernel
set_option maxRecDepth 20000 in
theorem ggX5_eastOf_X5_northOf : GoodIn wsX5_eastOf wsX5_northOf := goodIn_r _ [4] (by decide +kernel) (by decide +kernel)
set_option maxRecDepth 20000 in
theorem gX5_eastOf_X5_northOf : GoodIn wsX5_eastOf (va_wsS RX5 50 yX5_northOf wsX5_northOf) := goodIn_app (goodIn_of _ (by decide +kernel)) ggX5_eastOf_X5_northOf
theorem dX5_eastOf_0 : decode cX5_eastOf 0 = .ok (.iload_n 0, 1) := by decide +kernel
theorem dX5_eastOf_1 : decode cX5_eastOf 1 = .ok (.bipush 12, 2) := by decide +kernel
theorem dX5_eastOf_3 : decode cX5_eastOf 3 = .ok (.iadd, 1) := by decide +kernel
theorem dX5_eastOf_4 : decode cX5_eastOf 4 = .ok (.bipush 16, 2) := by decide +kernel
theorem dX5_eastOf_6 : decode cX5_eastOf 6 = .ok (.irem, 1) := by decide +kernel
theorem dX5_eastOf_7 : decode cX5_eastOf 7 = .ok (.invokestatic 50, 3) := by decide +kernel
theorem dX5_eastOf_10 : decode cX5_eastOf 10 = .ok (.ireturn, 1) := by decide +kernel
set_option maxRecDepth 20000 in
theorem ggX5_lays_X5_shipOf : GoodIn wsX5_lays wsX5_shipOf := goodIn_r _ [9, 10, 17, 18, 19, 20, 21, 22, 23, 24, 25, 26, 27, 28, 29, 30, 31, 32, 33, 34, 35, 36, 37] (by decide +kernel) (by decide +kernel)
set_option maxRecDepth 20000 in
theorem gX5_lays_X5_shipOf : GoodIn wsX5_lays (wsV RX5 53 RX5 yX5_shipOf wsX5_shipOf) := goodIn_app (goodIn_of _ (by decide +kernel)) ggX5_lays_X5_shipOf
set_option maxRecDepth 20000 in
theorem ggX5_lays_X5_eastOf : GoodIn wsX5_lays wsX5_eastOf := goodIn_r _ [13, 14, 15, 8, 16] (by decide +kernel) (by decide +kernel)
set_option maxRecDepth 20000 in
theorem gX5_lays_X5_eastOf : GoodIn wsX5_lays (va_wsS RX5 64 yX5_eastOf wsX5_eastOf) := goodIn_app (goodIn_of _ (by decide +kernel)) ggX5_lays_X5_eastOf
set_option maxRecDepth 20000 in
theorem ggX5_lays_X5_northOf : GoodIn wsX5_lays wsX5_northOf := goodIn_r _ [16] (by decide +kernel) (by decide +kernel)
set_option maxRecDepth 20000 in
theorem gX5_lays_X5_northOf : GoodIn wsX5_lays (va_wsS RX5 50 yX5_northOf wsX5_northOf) := goodIn_app (goodIn_of _ (by decide +kernel)) ggX5_lays_X5_northOf
theorem dX5_lays_0 : decode cX5_lays 0 = .ok (.aload_n 0, 1) := by decide +kernel
theorem dX5_lays_1 : decode cX5_lays 1 = .ok (.aload_n 0, 1) := by decide +kernel
theorem dX5_lays_2 : decode cX5_lays 2 = .ok (.iload_n 2, 1) := by decide +kernel
theorem dX5_lays_3 : decode cX5_lays 3 = .ok (.iconst 0, 1) := by decide +kernel
theorem dX5_lays_4 : decode cX5_lays 4 = .ok (.invokevirtual 53, 3) := by decide +kernel
theorem dX5_lays_7 : decode cX5_lays 7 = .ok (.aload_n 0, 1) := by decide +kernel
theorem dX5_lays_8 : decode cX5_lays 8 = .ok (.iload_n 1, 1) := by decide +kernel
theorem dX5_lays_9 : decode cX5_lays 9 = .ok (.iconst 0, 1) := by decide +kernel
theorem dX5_lays_10 : decode cX5_lays 10 = .ok (.invokevirtual 53, 3) := by decide +kernel
theorem dX5_lays_13 : decode cX5_lays 13 = .ok (.isub, 1) := by decide +kernel
theorem dX5_lays_14 : decode cX5_lays 14 = .ok (.i2l, 1) := by decide +kernel
theorem dX5_lays_15 : decode cX5_lays 15 = .ok (.putfield 57, 3) := by decide +kernel
theorem dX5_lays_18 : decode cX5_lays 18 = .ok (.aload_n 0, 1) := by decide +kernel
theorem dX5_lays_19 : decode cX5_lays 19 = .ok (.aload_n 0, 1) := by decide +kernel
theorem dX5_lays_20 : decode cX5_lays 20 = .ok (.iload_n 2, 1) := by decide +kernel
theorem dX5_lays_21 : decode cX5_lays 21 = .ok (.iconst 1, 1) := by decide +kernel
theorem dX5_lays_22 : decode cX5_lays 22 = .ok (.invokevirtual 53, 3) := by decide +kernel
theorem dX5_lays_25 : decode cX5_lays 25 = .ok (.aload_n 0, 1) := by decide +kernel
theorem dX5_lays_26 : decode cX5_lays 26 = .ok (.iload_n 1, 1) := by decide +kernel
theorem dX5_lays_27 : decode cX5_lays 27 = .ok (.iconst 1, 1) := by decide +kernel
theorem dX5_lays_28 : decode cX5_lays 28 = .ok (.invokevirtual 53, 3) := by decide +kernel
theorem dX5_lays_31 : decode cX5_lays 31 = .ok (.isub, 1) := by decide +kernel
theorem dX5_lays_32 : decode cX5_lays 32 = .ok (.i2l, 1) := by decide +kernel
theorem dX5_lays_33 : decode cX5_lays 33 = .ok (.putfield 61, 3) := by decide +kernel
theorem dX5_lays_36 : decode cX5_lays 36 = .ok (.aload_n 0, 1) := by decide +kernel
theorem dX5_lays_37 : decode cX5_lays 37 = .ok (.aload_n 0, 1) := by decide +kernel
theorem dX5_lays_38 : decode cX5_lays 38 = .ok (.iload_n 2, 1) := by decide +kernel
theorem dX5_lays_39 : decode cX5_lays 39 = .ok (.iconst 3, 1) := by decide +kernel
theorem dX5_lays_40 : decode cX5_lays 40 = .ok (.invokevirtual 53, 3) := by decide +kernel
theorem dX5_lays_43 : decode cX5_lays 43 = .ok (.aload_n 0, 1) := by decide +kernel
theorem dX5_lays_44 : decode cX5_lays 44 = .ok (.iload_n 2, 1) := by decide +kernel
theorem dX5_lays_45 : decode cX5_lays 45 = .ok (.iconst 2, 1) := by decide +kernel
theorem dX5_lays_46 : decode cX5_lays 46 = .ok (.invokevirtual 53, 3) := by decide +kernel
theorem dX5_lays_49 : decode cX5_lays 49 = .ok (.invokestatic 64, 3) := by decide +kernel
theorem dX5_lays_52 : decode cX5_lays 52 = .ok (.imul, 1) := by decide +kernel
theorem dX5_lays_53 : decode cX5_lays 53 = .ok (.iload 4, 2) := by decide +kernel
theorem dX5_lays_55 : decode cX5_lays 55 = .ok (.iload_n 3, 1) := by decide +kernel
theorem dX5_lays_56 : decode cX5_lays 56 = .ok (.invokestatic 64, 3) := by decide +kernel
theorem dX5_lays_59 : decode cX5_lays 59 = .ok (.imul, 1) := by decide +kernel
theorem dX5_lays_60 : decode cX5_lays 60 = .ok (.isub, 1) := by decide +kernel
theorem dX5_lays_61 : decode cX5_lays 61 = .ok (.i2l, 1) := by decide +kernel
theorem dX5_lays_62 : decode cX5_lays 62 = .ok (.putfield 67, 3) := by decide +kernel
theorem dX5_lays_65 : decode cX5_lays 65 = .ok (.aload_n 0, 1) := by decide +kernel
theorem dX5_lays_66 : decode cX5_lays 66 = .ok (.aload_n 0, 1) := by decide +kernel
theorem dX5_lays_67 : decode cX5_lays 67 = .ok (.iload_n 2, 1) := by decide +kernel
theorem dX5_lays_68 : decode cX5_lays 68 = .ok (.iconst 3, 1) := by decide +kernel
theorem dX5_lays_69 : decode cX5_lays 69 = .ok (.invokevirtual 53, 3) := by decide +kernel
theorem dX5_lays_72 : decode cX5_lays 72 = .ok (.aload_n 0, 1) := by decide +kernel
theorem dX5_lays_73 : decode cX5_lays 73 = .ok (.iload_n 2, 1) := by decide +kernel
theorem dX5_lays_74 : decode cX5_lays 74 = .ok (.iconst 2, 1) := by decide +kernel
theorem dX5_lays_75 : decode cX5_lays 75 = .ok (.invokevirtual 53, 3) := by decide +kernel
theorem dX5_lays_78 : decode cX5_lays 78 = .ok (.invokestatic 50, 3) := by decide +kernel
theorem dX5_lays_81 : decode cX5_lays 81 = .ok (.imul, 1) := by decide +kernel
theorem dX5_lays_82 : decode cX5_lays 82 = .ok (.iload 4, 2) := by decide +kernel
theorem dX5_lays_84 : decode cX5_lays 84 = .ok (.iload_n 3, 1) := by decide +kernel
theorem dX5_lays_85 : decode cX5_lays 85 = .ok (.invokestatic 50, 3) := by decide +kernel
theorem dX5_lays_88 : decode cX5_lays 88 = .ok (.imul, 1) := by decide +kernel
theorem dX5_lays_89 : decode cX5_lays 89 = .ok (.isub, 1) := by decide +kernel
theorem dX5_lays_90 : decode cX5_lays 90 = .ok (.i2l, 1) := by decide +kernel
theorem dX5_lays_91 : decode cX5_lays 91 = .ok (.putfield 70, 3) := by decide +kernel
theorem dX5_lays_94 : decode cX5_lays 94 = .ok (.return_, 1) := by decide +kernel
set_option maxRecDepth 20000 in
theorem ggX5_laysAsTheyAre_X5_shipOf : GoodIn wsX5_laysAsTheyAre wsX5_shipOf := goodIn_r _ [5, 6, 21, 22, 23, 24, 25, 26, 27, 28, 29, 30, 31, 32, 33, 34, 35, 36, 37, 38, 39, 40, 41] (by decide +kernel) (by decide +kernel)
set_option maxRecDepth 20000 in
theorem gX5_laysAsTheyAre_X5_shipOf : GoodIn wsX5_laysAsTheyAre (wsV RX5 53 RX5 yX5_shipOf wsX5_shipOf) := goodIn_app (goodIn_of _ (by decide +kernel)) ggX5_laysAsTheyAre_X5_shipOf
set_option maxRecDepth 20000 in
theorem ggX5_laysAsTheyAre_X5_lays : GoodIn wsX5_laysAsTheyAre wsX5_lays := goodIn_r _ [10, 11, 12, 13, 14, 1, 2, 3, 4, 5, 6, 15, 16, 17, 18, 19, 20, 21, 22, 23, 24, 25, 26, 27, 28, 29, 30, 31, 32, 33, 34, 35, 36, 37, 38, 39, 40, 41] (by decide +kernel) (by decide +kernel)
set_option maxRecDepth 20000 in
theorem gX5_laysAsTheyAre_X5_lays : GoodIn wsX5_laysAsTheyAre (wsV RX5 73 RX5 yX5_lays wsX5_lays) := goodIn_app (goodIn_of _ (by decide +kernel)) ggX5_laysAsTheyAre_X5_lays
theorem dX5_laysAsTheyAre_0 : decode cX5_laysAsTheyAre 0 = .ok (.aload_n 0, 1) := by decide +kernel
theorem dX5_laysAsTheyAre_1 : decode cX5_laysAsTheyAre 1 = .ok (.iload_n 1, 1) := by decide +kernel
theorem dX5_laysAsTheyAre_2 : decode cX5_laysAsTheyAre 2 = .ok (.iload_n 2, 1) := by decide +kernel
theorem dX5_laysAsTheyAre_3 : decode cX5_laysAsTheyAre 3 = .ok (.aload_n 0, 1) := by decide +kernel
theorem dX5_laysAsTheyAre_4 : decode cX5_laysAsTheyAre 4 = .ok (.iload_n 1, 1) := by decide +kernel
theorem dX5_laysAsTheyAre_5 : decode cX5_laysAsTheyAre 5 = .ok (.iconst 2, 1) := by decide +kernel
theorem dX5_laysAsTheyAre_6 : decode cX5_laysAsTheyAre 6 = .ok (.invokevirtual 53, 3) := by decide +kernel
theorem dX5_laysAsTheyAre_9 : decode cX5_laysAsTheyAre 9 = .ok (.aload_n 0, 1) := by decide +kernel
theorem dX5_laysAsTheyAre_10 : decode cX5_laysAsTheyAre 10 = .ok (.iload_n 1, 1) := by decide +kernel
theorem dX5_laysAsTheyAre_11 : decode cX5_laysAsTheyAre 11 = .ok (.iconst 3, 1) := by decide +kernel
theorem dX5_laysAsTheyAre_12 : decode cX5_laysAsTheyAre 12 = .ok (.invokevirtual 53, 3) := by decide +kernel
theorem dX5_laysAsTheyAre_15 : decode cX5_laysAsTheyAre 15 = .ok (.invokevirtual 73, 3) := by decide +kernel
theorem dX5_laysAsTheyAre_18 : decode cX5_laysAsTheyAre 18 = .ok (.return_, 1) := by decide +kernel
theorem dX5_towards_0 : decode cX5_towards 0 = .ok (.aload_n 0, 1) := by decide +kernel
theorem dX5_towards_1 : decode cX5_towards 1 = .ok (.getfield 57, 3) := by decide +kernel
theorem dX5_towards_4 : decode cX5_towards 4 = .ok (.aload_n 0, 1) := by decide +kernel
theorem dX5_towards_5 : decode cX5_towards 5 = .ok (.getfield 67, 3) := by decide +kernel
theorem dX5_towards_8 : decode cX5_towards 8 = .ok (.lmul, 1) := by decide +kernel
theorem dX5_towards_9 : decode cX5_towards 9 = .ok (.aload_n 0, 1) := by decide +kernel
theorem dX5_towards_10 : decode cX5_towards 10 = .ok (.getfield 61, 3) := by decide +kernel
theorem dX5_towards_13 : decode cX5_towards 13 = .ok (.aload_n 0, 1) := by decide +kernel
theorem dX5_towards_14 : decode cX5_towards 14 = .ok (.getfield 70, 3) := by decide +kernel
theorem dX5_towards_17 : decode cX5_towards 17 = .ok (.lmul, 1) := by decide +kernel
theorem dX5_towards_18 : decode cX5_towards 18 = .ok (.ladd, 1) := by decide +kernel
theorem dX5_towards_19 : decode cX5_towards 19 = .ok (.lreturn, 1) := by decide +kernel
theorem dX5_squareAway_0 : decode cX5_squareAway 0 = .ok (.aload_n 0, 1) := by decide +kernel
theorem dX5_squareAway_1 : decode cX5_squareAway 1 = .ok (.getfield 57, 3) := by decide +kernel
theorem dX5_squareAway_4 : decode cX5_squareAway 4 = .ok (.aload_n 0, 1) := by decide +kernel
theorem dX5_squareAway_5 : decode cX5_squareAway 5 = .ok (.getfield 57, 3) := by decide +kernel
theorem dX5_squareAway_8 : decode cX5_squareAway 8 = .ok (.lmul, 1) := by decide +kernel
theorem dX5_squareAway_9 : decode cX5_squareAway 9 = .ok (.aload_n 0, 1) := by decide +kernel
theorem dX5_squareAway_10 : decode cX5_squareAway 10 = .ok (.getfield 61, 3) := by decide +kernel
theorem dX5_squareAway_13 : decode cX5_squareAway 13 = .ok (.aload_n 0, 1) := by decide +kernel
theorem dX5_squareAway_14 : decode cX5_squareAway 14 = .ok (.getfield 61, 3) := by decide +kernel
theorem dX5_squareAway_17 : decode cX5_squareAway 17 = .ok (.lmul, 1) := by decide +kernel
theorem dX5_squareAway_18 : decode cX5_squareAway 18 = .ok (.ladd, 1) := by decide +kernel
theorem dX5_squareAway_19 : decode cX5_squareAway 19 = .ok (.lreturn, 1) := by decide +kernel
theorem dX5_common_0 : decode cX5_common 0 = .ok (.lload_n 0, 1) := by decide +kernel
theorem dX5_common_1 : decode cX5_common 1 = .ok (.lstore 4, 2) := by decide +kernel
theorem dX5_common_3 : decode cX5_common 3 = .ok (.lload_n 2, 1) := by decide +kernel
theorem dX5_common_4 : decode cX5_common 4 = .ok (.lstore 6, 2) := by decide +kernel
theorem dX5_common_6 : decode cX5_common 6 = .ok (.lload 6, 2) := by decide +kernel
theorem dX5_common_8 : decode cX5_common 8 = .ok (.lconst 0, 1) := by decide +kernel
theorem dX5_common_9 : decode cX5_common 9 = .ok (.lcmp, 1) := by decide +kernel
theorem dX5_common_10 : decode cX5_common 10 = .ok (.ifCond .eq 21, 3) := by decide +kernel
theorem dX5_common_13 : decode cX5_common 13 = .ok (.lload 4, 2) := by decide +kernel
theorem dX5_common_15 : decode cX5_common 15 = .ok (.lload 6, 2) := by decide +kernel
end
section
theorem dX5_common_17 : decode cX5_common 17 = .ok (.lrem, 1) := by decide +kernel
theorem dX5_common_18 : decode cX5_common 18 = .ok (.lstore 8, 2) := by decide +kernel
theorem dX5_common_20 : decode cX5_common 20 = .ok (.lload 6, 2) := by decide +kernel
theorem dX5_common_22 : decode cX5_common 22 = .ok (.lstore 4, 2) := by decide +kernel
theorem dX5_common_24 : decode cX5_common 24 = .ok (.lload 8, 2) := by decide +kernel
theorem dX5_common_26 : decode cX5_common 26 = .ok (.lstore 6, 2) := by decide +kernel
theorem dX5_common_28 : decode cX5_common 28 = .ok (.goto (-22), 3) := by decide +kernel
theorem dX5_common_31 : decode cX5_common 31 = .ok (.lload 4, 2) := by decide +kernel
theorem dX5_common_33 : decode cX5_common 33 = .ok (.lreturn, 1) := by decide +kernel
set_option maxRecDepth 20000 in
theorem ggX5_findsClosest_X5_towards : GoodIn wsX5_findsClosest wsX5_towards := goodIn_r _ [13, 7, 5, 8, 6, 21, 22, 23, 24, 25, 26, 27, 28, 29, 30, 31, 32, 33, 34, 35, 36, 37, 38, 39, 40, 41] (by decide +kernel) (by decide +kernel)
set_option maxRecDepth 20000 in
theorem gX5_findsClosest_X5_towards : GoodIn wsX5_findsClosest (wsV RX5 77 RX5 yX5_towards wsX5_towards) := goodIn_app (goodIn_of _ (by decide +kernel)) ggX5_findsClosest_X5_towards
set_option maxRecDepth 20000 in
theorem ggX5_findsClosest_X5_squareAway : GoodIn wsX5_findsClosest wsX5_squareAway := goodIn_r _ [17, 7, 8, 21, 22, 23, 24, 25, 26, 27, 28, 29, 30, 31, 32, 33, 34, 35, 36, 37, 38, 39, 40, 41] (by decide +kernel) (by decide +kernel)
set_option maxRecDepth 20000 in
theorem gX5_findsClosest_X5_squareAway : GoodIn wsX5_findsClosest (wsV RX5 87 RX5 yX5_squareAway wsX5_squareAway) := goodIn_app (goodIn_of _ (by decide +kernel)) ggX5_findsClosest_X5_squareAway
set_option maxRecDepth 20000 in
theorem ggX5_findsClosest_X5_common : GoodIn wsX5_findsClosest wsX5_common := goodIn_r _ [20] (by decide +kernel) (by decide +kernel)
set_option maxRecDepth 20000 in
theorem gX5_findsClosest_X5_common : GoodIn wsX5_findsClosest (va_wsS RX5 96 yX5_common wsX5_common) := goodIn_app (goodIn_of _ (by decide +kernel)) ggX5_findsClosest_X5_common
theorem dX5_findsClosest_0 : decode cX5_findsClosest 0 = .ok (.aload_n 0, 1) := by decide +kernel
theorem dX5_findsClosest_1 : decode cX5_findsClosest 1 = .ok (.invokevirtual 77, 3) := by decide +kernel
theorem dX5_findsClosest_4 : decode cX5_findsClosest 4 = .ok (.lconst 0, 1) := by decide +kernel
theorem dX5_findsClosest_5 : decode cX5_findsClosest 5 = .ok (.lcmp, 1) := by decide +kernel
theorem dX5_findsClosest_6 : decode cX5_findsClosest 6 = .ok (.ifCond .lt 27, 3) := by decide +kernel
theorem dX5_findsClosest_9 : decode cX5_findsClosest 9 = .ok (.aload_n 0, 1) := by decide +kernel
theorem dX5_findsClosest_10 : decode cX5_findsClosest 10 = .ok (.lconst 0, 1) := by decide +kernel
theorem dX5_findsClosest_11 : decode cX5_findsClosest 11 = .ok (.putfield 81, 3) := by decide +kernel
theorem dX5_findsClosest_14 : decode cX5_findsClosest 14 = .ok (.aload_n 0, 1) := by decide +kernel
theorem dX5_findsClosest_15 : decode cX5_findsClosest 15 = .ok (.lconst 1, 1) := by decide +kernel
theorem dX5_findsClosest_16 : decode cX5_findsClosest 16 = .ok (.putfield 84, 3) := by decide +kernel
theorem dX5_findsClosest_19 : decode cX5_findsClosest 19 = .ok (.aload_n 0, 1) := by decide +kernel
theorem dX5_findsClosest_20 : decode cX5_findsClosest 20 = .ok (.aload_n 0, 1) := by decide +kernel
theorem dX5_findsClosest_21 : decode cX5_findsClosest 21 = .ok (.invokevirtual 87, 3) := by decide +kernel
theorem dX5_findsClosest_24 : decode cX5_findsClosest 24 = .ok (.putfield 90, 3) := by decide +kernel
theorem dX5_findsClosest_27 : decode cX5_findsClosest 27 = .ok (.aload_n 0, 1) := by decide +kernel
theorem dX5_findsClosest_28 : decode cX5_findsClosest 28 = .ok (.lconst 1, 1) := by decide +kernel
theorem dX5_findsClosest_29 : decode cX5_findsClosest 29 = .ok (.putfield 93, 3) := by decide +kernel
theorem dX5_findsClosest_32 : decode cX5_findsClosest 32 = .ok (.return_, 1) := by decide +kernel
theorem dX5_findsClosest_33 : decode cX5_findsClosest 33 = .ok (.aload_n 0, 1) := by decide +kernel
theorem dX5_findsClosest_34 : decode cX5_findsClosest 34 = .ok (.getfield 67, 3) := by decide +kernel
theorem dX5_findsClosest_37 : decode cX5_findsClosest 37 = .ok (.aload_n 0, 1) := by decide +kernel
theorem dX5_findsClosest_38 : decode cX5_findsClosest 38 = .ok (.getfield 67, 3) := by decide +kernel
theorem dX5_findsClosest_41 : decode cX5_findsClosest 41 = .ok (.lmul, 1) := by decide +kernel
theorem dX5_findsClosest_42 : decode cX5_findsClosest 42 = .ok (.aload_n 0, 1) := by decide +kernel
theorem dX5_findsClosest_43 : decode cX5_findsClosest 43 = .ok (.getfield 70, 3) := by decide +kernel
theorem dX5_findsClosest_46 : decode cX5_findsClosest 46 = .ok (.aload_n 0, 1) := by decide +kernel
theorem dX5_findsClosest_47 : decode cX5_findsClosest 47 = .ok (.getfield 70, 3) := by decide +kernel
theorem dX5_findsClosest_50 : decode cX5_findsClosest 50 = .ok (.lmul, 1) := by decide +kernel
theorem dX5_findsClosest_51 : decode cX5_findsClosest 51 = .ok (.ladd, 1) := by decide +kernel
theorem dX5_findsClosest_52 : decode cX5_findsClosest 52 = .ok (.lstore_n 1, 1) := by decide +kernel
theorem dX5_findsClosest_53 : decode cX5_findsClosest 53 = .ok (.aload_n 0, 1) := by decide +kernel
theorem dX5_findsClosest_54 : decode cX5_findsClosest 54 = .ok (.getfield 57, 3) := by decide +kernel
theorem dX5_findsClosest_57 : decode cX5_findsClosest 57 = .ok (.aload_n 0, 1) := by decide +kernel
theorem dX5_findsClosest_58 : decode cX5_findsClosest 58 = .ok (.getfield 70, 3) := by decide +kernel
theorem dX5_findsClosest_61 : decode cX5_findsClosest 61 = .ok (.lmul, 1) := by decide +kernel
theorem dX5_findsClosest_62 : decode cX5_findsClosest 62 = .ok (.aload_n 0, 1) := by decide +kernel
theorem dX5_findsClosest_63 : decode cX5_findsClosest 63 = .ok (.getfield 61, 3) := by decide +kernel
theorem dX5_findsClosest_66 : decode cX5_findsClosest 66 = .ok (.aload_n 0, 1) := by decide +kernel
theorem dX5_findsClosest_67 : decode cX5_findsClosest 67 = .ok (.getfield 67, 3) := by decide +kernel
theorem dX5_findsClosest_70 : decode cX5_findsClosest 70 = .ok (.lmul, 1) := by decide +kernel
theorem dX5_findsClosest_71 : decode cX5_findsClosest 71 = .ok (.lsub, 1) := by decide +kernel
theorem dX5_findsClosest_72 : decode cX5_findsClosest 72 = .ok (.lstore_n 3, 1) := by decide +kernel
theorem dX5_findsClosest_73 : decode cX5_findsClosest 73 = .ok (.lload_n 1, 1) := by decide +kernel
theorem dX5_findsClosest_74 : decode cX5_findsClosest 74 = .ok (.aload_n 0, 1) := by decide +kernel
theorem dX5_findsClosest_75 : decode cX5_findsClosest 75 = .ok (.invokevirtual 77, 3) := by decide +kernel
theorem dX5_findsClosest_78 : decode cX5_findsClosest 78 = .ok (.lneg, 1) := by decide +kernel
theorem dX5_findsClosest_79 : decode cX5_findsClosest 79 = .ok (.invokestatic 96, 3) := by decide +kernel
theorem dX5_findsClosest_82 : decode cX5_findsClosest 82 = .ok (.lstore 5, 2) := by decide +kernel
theorem dX5_findsClosest_84 : decode cX5_findsClosest 84 = .ok (.aload_n 0, 1) := by decide +kernel
theorem dX5_findsClosest_85 : decode cX5_findsClosest 85 = .ok (.aload_n 0, 1) := by decide +kernel
theorem dX5_findsClosest_86 : decode cX5_findsClosest 86 = .ok (.invokevirtual 77, 3) := by decide +kernel
theorem dX5_findsClosest_89 : decode cX5_findsClosest 89 = .ok (.lneg, 1) := by decide +kernel
theorem dX5_findsClosest_90 : decode cX5_findsClosest 90 = .ok (.lload 5, 2) := by decide +kernel
theorem dX5_findsClosest_92 : decode cX5_findsClosest 92 = .ok (.ldiv, 1) := by decide +kernel
theorem dX5_findsClosest_93 : decode cX5_findsClosest 93 = .ok (.putfield 81, 3) := by decide +kernel
theorem dX5_findsClosest_96 : decode cX5_findsClosest 96 = .ok (.aload_n 0, 1) := by decide +kernel
theorem dX5_findsClosest_97 : decode cX5_findsClosest 97 = .ok (.lload_n 1, 1) := by decide +kernel
theorem dX5_findsClosest_98 : decode cX5_findsClosest 98 = .ok (.lload 5, 2) := by decide +kernel
theorem dX5_findsClosest_100 : decode cX5_findsClosest 100 = .ok (.ldiv, 1) := by decide +kernel
theorem dX5_findsClosest_101 : decode cX5_findsClosest 101 = .ok (.putfield 84, 3) := by decide +kernel
theorem dX5_findsClosest_104 : decode cX5_findsClosest 104 = .ok (.lload_n 1, 1) := by decide +kernel
theorem dX5_findsClosest_105 : decode cX5_findsClosest 105 = .ok (.lload_n 3, 1) := by decide +kernel
theorem dX5_findsClosest_106 : decode cX5_findsClosest 106 = .ok (.lload_n 3, 1) := by decide +kernel
theorem dX5_findsClosest_107 : decode cX5_findsClosest 107 = .ok (.lmul, 1) := by decide +kernel
theorem dX5_findsClosest_108 : decode cX5_findsClosest 108 = .ok (.invokestatic 96, 3) := by decide +kernel
theorem dX5_findsClosest_111 : decode cX5_findsClosest 111 = .ok (.lstore 5, 2) := by decide +kernel
theorem dX5_findsClosest_113 : decode cX5_findsClosest 113 = .ok (.aload_n 0, 1) := by decide +kernel
theorem dX5_findsClosest_114 : decode cX5_findsClosest 114 = .ok (.lload_n 3, 1) := by decide +kernel
theorem dX5_findsClosest_115 : decode cX5_findsClosest 115 = .ok (.lload_n 3, 1) := by decide +kernel
theorem dX5_findsClosest_116 : decode cX5_findsClosest 116 = .ok (.lmul, 1) := by decide +kernel
theorem dX5_findsClosest_117 : decode cX5_findsClosest 117 = .ok (.lload 5, 2) := by decide +kernel
theorem dX5_findsClosest_119 : decode cX5_findsClosest 119 = .ok (.ldiv, 1) := by decide +kernel
theorem dX5_findsClosest_120 : decode cX5_findsClosest 120 = .ok (.putfield 90, 3) := by decide +kernel
theorem dX5_findsClosest_123 : decode cX5_findsClosest 123 = .ok (.aload_n 0, 1) := by decide +kernel
theorem dX5_findsClosest_124 : decode cX5_findsClosest 124 = .ok (.lload_n 1, 1) := by decide +kernel
theorem dX5_findsClosest_125 : decode cX5_findsClosest 125 = .ok (.lload 5, 2) := by decide +kernel
theorem dX5_findsClosest_127 : decode cX5_findsClosest 127 = .ok (.ldiv, 1) := by decide +kernel
theorem dX5_findsClosest_128 : decode cX5_findsClosest 128 = .ok (.putfield 93, 3) := by decide +kernel
theorem dX5_findsClosest_131 : decode cX5_findsClosest 131 = .ok (.return_, 1) := by decide +kernel
set_option maxRecDepth 20000 in
theorem ggX5_isRisk_X5_findsClosest : GoodIn wsX5_isRisk wsX5_findsClosest := goodIn_r _ [10, 4, 5, 2, 3, 11, 12, 13, 14, 15, 16, 17, 9, 18, 19, 20, 21, 22, 23, 24, 25, 26, 27, 28, 29, 30, 31, 32, 33, 34, 35, 36, 37, 38, 39, 40, 41, 42, 43, 44, 45, 46] (by decide +kernel) (by decide +kernel)
set_option maxRecDepth 20000 in
theorem gX5_isRisk_X5_findsClosest : GoodIn wsX5_isRisk (wsV RX5 100 RX5 yX5_findsClosest wsX5_findsClosest) := goodIn_app (goodIn_of _ (by decide +kernel)) ggX5_isRisk_X5_findsClosest
theorem dX5_isRisk_0 : decode cX5_isRisk 0 = .ok (.aload_n 0, 1) := by decide +kernel
theorem dX5_isRisk_1 : decode cX5_isRisk 1 = .ok (.invokevirtual 100, 3) := by decide +kernel
theorem dX5_isRisk_4 : decode cX5_isRisk 4 = .ok (.aload_n 0, 1) := by decide +kernel
theorem dX5_isRisk_5 : decode cX5_isRisk 5 = .ok (.getfield 7, 3) := by decide +kernel
theorem dX5_isRisk_8 : decode cX5_isRisk 8 = .ok (.iconst 1, 1) := by decide +kernel
theorem dX5_isRisk_9 : decode cX5_isRisk 9 = .ok (.iaload, 1) := by decide +kernel
theorem dX5_isRisk_10 : decode cX5_isRisk 10 = .ok (.i2l, 1) := by decide +kernel
theorem dX5_isRisk_11 : decode cX5_isRisk 11 = .ok (.lstore_n 1, 1) := by decide +kernel
theorem dX5_isRisk_12 : decode cX5_isRisk 12 = .ok (.aload_n 0, 1) := by decide +kernel
theorem dX5_isRisk_13 : decode cX5_isRisk 13 = .ok (.getfield 90, 3) := by decide +kernel
theorem dX5_isRisk_16 : decode cX5_isRisk 16 = .ok (.lload_n 1, 1) := by decide +kernel
theorem dX5_isRisk_17 : decode cX5_isRisk 17 = .ok (.lload_n 1, 1) := by decide +kernel
theorem dX5_isRisk_18 : decode cX5_isRisk 18 = .ok (.lmul, 1) := by decide +kernel
theorem dX5_isRisk_19 : decode cX5_isRisk 19 = .ok (.aload_n 0, 1) := by decide +kernel
theorem dX5_isRisk_20 : decode cX5_isRisk 20 = .ok (.getfield 93, 3) := by decide +kernel
theorem dX5_isRisk_23 : decode cX5_isRisk 23 = .ok (.lmul, 1) := by decide +kernel
theorem dX5_isRisk_24 : decode cX5_isRisk 24 = .ok (.lcmp, 1) := by decide +kernel
theorem dX5_isRisk_25 : decode cX5_isRisk 25 = .ok (.ifCond .ge 27, 3) := by decide +kernel
theorem dX5_isRisk_28 : decode cX5_isRisk 28 = .ok (.aload_n 0, 1) := by decide +kernel
theorem dX5_isRisk_29 : decode cX5_isRisk 29 = .ok (.getfield 81, 3) := by decide +kernel
theorem dX5_isRisk_32 : decode cX5_isRisk 32 = .ok (.aload_n 0, 1) := by decide +kernel
theorem dX5_isRisk_33 : decode cX5_isRisk 33 = .ok (.getfield 7, 3) := by decide +kernel
theorem dX5_isRisk_36 : decode cX5_isRisk 36 = .ok (.iconst 2, 1) := by decide +kernel
theorem dX5_isRisk_37 : decode cX5_isRisk 37 = .ok (.iaload, 1) := by decide +kernel
theorem dX5_isRisk_38 : decode cX5_isRisk 38 = .ok (.i2l, 1) := by decide +kernel
theorem dX5_isRisk_39 : decode cX5_isRisk 39 = .ok (.aload_n 0, 1) := by decide +kernel
theorem dX5_isRisk_40 : decode cX5_isRisk 40 = .ok (.getfield 84, 3) := by decide +kernel
theorem dX5_isRisk_43 : decode cX5_isRisk 43 = .ok (.lmul, 1) := by decide +kernel
theorem dX5_isRisk_44 : decode cX5_isRisk 44 = .ok (.lcmp, 1) := by decide +kernel
theorem dX5_isRisk_45 : decode cX5_isRisk 45 = .ok (.ifCond .gt 7, 3) := by decide +kernel
theorem dX5_isRisk_48 : decode cX5_isRisk 48 = .ok (.iconst 1, 1) := by decide +kernel
theorem dX5_isRisk_49 : decode cX5_isRisk 49 = .ok (.goto 4, 3) := by decide +kernel
theorem dX5_isRisk_52 : decode cX5_isRisk 52 = .ok (.iconst 0, 1) := by decide +kernel
theorem dX5_isRisk_53 : decode cX5_isRisk 53 = .ok (.ireturn, 1) := by decide +kernel
set_option maxRecDepth 20000 in
theorem ggX5_haveRisk_X5_laysAsTheyAre : GoodIn wsX5_haveRisk wsX5_laysAsTheyAre := goodIn_r _ [5, 6, 7, 8, 4, 9, 10, 11, 12, 13, 14, 15, 16, 17, 18, 19, 20, 21, 22, 23, 24, 48, 49, 50, 51, 52, 53, 54, 55, 56, 57, 58, 59, 60, 61, 62, 63, 64, 65, 66, 67, 68] (by decide +kernel) (by decide +kernel)
set_option maxRecDepth 20000 in
theorem gX5_haveRisk_X5_laysAsTheyAre : GoodIn wsX5_haveRisk (wsV RX5 103 RX5 yX5_laysAsTheyAre wsX5_laysAsTheyAre) := goodIn_app (goodIn_of _ (by decide +kernel)) ggX5_haveRisk_X5_laysAsTheyAre
set_option maxRecDepth 20000 in
theorem ggX5_haveRisk_X5_isRisk : GoodIn wsX5_haveRisk wsX5_isRisk := goodIn_r _ [28, 10, 29, 30, 31, 32, 33, 34, 35, 4, 36, 17, 18, 15, 16, 37, 38, 39, 40, 41, 42, 43, 44, 45, 46, 47, 48, 49, 50, 51, 52, 53, 54, 55, 56, 57, 58, 59, 60, 61, 62, 63, 64, 65, 66, 67, 68] (by decide +kernel) (by decide +kernel)
set_option maxRecDepth 20000 in
theorem gX5_haveRisk_X5_isRisk : GoodIn wsX5_haveRisk (wsV RX5 107 RX5 yX5_isRisk wsX5_isRisk) := goodIn_app (goodIn_of _ (by decide +kernel)) ggX5_haveRisk_X5_isRisk
theorem dX5_haveRisk_0 : decode cX5_haveRisk 0 = .ok (.aload_n 0, 1) := by decide +kernel
theorem dX5_haveRisk_1 : decode cX5_haveRisk 1 = .ok (.iload_n 1, 1) := by decide +kernel
theorem dX5_haveRisk_2 : decode cX5_haveRisk 2 = .ok (.iload_n 2, 1) := by decide +kernel
theorem dX5_haveRisk_3 : decode cX5_haveRisk 3 = .ok (.invokevirtual 103, 3) := by decide +kernel
theorem dX5_haveRisk_6 : decode cX5_haveRisk 6 = .ok (.aload_n 0, 1) := by decide +kernel
theorem dX5_haveRisk_7 : decode cX5_haveRisk 7 = .ok (.invokevirtual 107, 3) := by decide +kernel
theorem dX5_haveRisk_10 : decode cX5_haveRisk 10 = .ok (.ireturn, 1) := by decide +kernel
set_option maxRecDepth 20000 in
theorem ggX5_sectorOf_X5_laysAsTheyAre : GoodIn wsX5_sectorOf wsX5_laysAsTheyAre := goodIn_r _ [9, 10, 11, 12, 8, 13, 14, 15, 16, 17, 18, 1, 2, 19, 20, 21, 22, 23, 24, 25, 26, 31, 32, 33, 34, 35, 36, 37, 38, 39, 40, 41, 42, 43, 44, 45, 46, 47, 48, 49, 50, 51] (by decide +kernel) (by decide +kernel)
set_option maxRecDepth 20000 in
theorem gX5_sectorOf_X5_laysAsTheyAre : GoodIn wsX5_sectorOf (wsV RX5 103 RX5 yX5_laysAsTheyAre wsX5_laysAsTheyAre) := goodIn_app (goodIn_of _ (by decide +kernel)) ggX5_sectorOf_X5_laysAsTheyAre
set_option maxRecDepth 20000 in
theorem ggX5_sectorOf_X5_shipOf : GoodIn wsX5_sectorOf wsX5_shipOf := goodIn_r _ [13, 14, 31, 32, 33, 34, 35, 36, 37, 38, 39, 40, 41, 42, 43, 44, 45, 46, 47, 48, 49, 50, 51] (by decide +kernel) (by decide +kernel)
set_option maxRecDepth 20000 in
theorem gX5_sectorOf_X5_shipOf : GoodIn wsX5_sectorOf (wsV RX5 53 RX5 yX5_shipOf wsX5_shipOf) := goodIn_app (goodIn_of _ (by decide +kernel)) ggX5_sectorOf_X5_shipOf
set_option maxRecDepth 20000 in
theorem ggX5_sectorOf_X5_eastOf : GoodIn wsX5_sectorOf wsX5_eastOf := goodIn_r _ [23, 24, 25, 8, 26] (by decide +kernel) (by decide +kernel)
set_option maxRecDepth 20000 in
theorem gX5_sectorOf_X5_eastOf : GoodIn wsX5_sectorOf (va_wsS RX5 64 yX5_eastOf wsX5_eastOf) := goodIn_app (goodIn_of _ (by decide +kernel)) ggX5_sectorOf_X5_eastOf
set_option maxRecDepth 20000 in
theorem ggX5_sectorOf_X5_northOf : GoodIn wsX5_sectorOf wsX5_northOf := goodIn_r _ [26] (by decide +kernel) (by decide +kernel)
set_option maxRecDepth 20000 in
theorem gX5_sectorOf_X5_northOf : GoodIn wsX5_sectorOf (va_wsS RX5 50 yX5_northOf wsX5_northOf) := goodIn_app (goodIn_of _ (by decide +kernel)) ggX5_sectorOf_X5_northOf
set_option maxRecDepth 20000 in
theorem ggX5_sectorOf_X5_squareAway : GoodIn wsX5_sectorOf wsX5_squareAway := goodIn_r _ [30, 1, 2, 31, 32, 33, 34, 35, 36, 37, 38, 39, 40, 41, 42, 43, 44, 45, 46, 47, 48, 49, 50, 51] (by decide +kernel) (by decide +kernel)
set_option maxRecDepth 20000 in
theorem gX5_sectorOf_X5_squareAway : GoodIn wsX5_sectorOf (wsV RX5 87 RX5 yX5_squareAway wsX5_squareAway) := goodIn_app (goodIn_of _ (by decide +kernel)) ggX5_sectorOf_X5_squareAway
theorem dX5_sectorOf_0 : decode cX5_sectorOf 0 = .ok (.aload_n 0, 1) := by decide +kernel
theorem dX5_sectorOf_1 : decode cX5_sectorOf 1 = .ok (.iload_n 1, 1) := by decide +kernel
theorem dX5_sectorOf_2 : decode cX5_sectorOf 2 = .ok (.iload_n 2, 1) := by decide +kernel
theorem dX5_sectorOf_3 : decode cX5_sectorOf 3 = .ok (.invokevirtual 103, 3) := by decide +kernel
theorem dX5_sectorOf_6 : decode cX5_sectorOf 6 = .ok (.aload_n 0, 1) := by decide +kernel
theorem dX5_sectorOf_7 : decode cX5_sectorOf 7 = .ok (.iload_n 1, 1) := by decide +kernel
theorem dX5_sectorOf_8 : decode cX5_sectorOf 8 = .ok (.iconst 2, 1) := by decide +kernel
theorem dX5_sectorOf_9 : decode cX5_sectorOf 9 = .ok (.invokevirtual 53, 3) := by decide +kernel
theorem dX5_sectorOf_12 : decode cX5_sectorOf 12 = .ok (.invokestatic 64, 3) := by decide +kernel
theorem dX5_sectorOf_15 : decode cX5_sectorOf 15 = .ok (.i2l, 1) := by decide +kernel
theorem dX5_sectorOf_16 : decode cX5_sectorOf 16 = .ok (.lstore_n 3, 1) := by decide +kernel
theorem dX5_sectorOf_17 : decode cX5_sectorOf 17 = .ok (.aload_n 0, 1) := by decide +kernel
theorem dX5_sectorOf_18 : decode cX5_sectorOf 18 = .ok (.iload_n 1, 1) := by decide +kernel
theorem dX5_sectorOf_19 : decode cX5_sectorOf 19 = .ok (.iconst 2, 1) := by decide +kernel
theorem dX5_sectorOf_20 : decode cX5_sectorOf 20 = .ok (.invokevirtual 53, 3) := by decide +kernel
theorem dX5_sectorOf_23 : decode cX5_sectorOf 23 = .ok (.invokestatic 50, 3) := by decide +kernel
theorem dX5_sectorOf_26 : decode cX5_sectorOf 26 = .ok (.i2l, 1) := by decide +kernel
theorem dX5_sectorOf_27 : decode cX5_sectorOf 27 = .ok (.lstore 5, 2) := by decide +kernel
theorem dX5_sectorOf_29 : decode cX5_sectorOf 29 = .ok (.lload_n 3, 1) := by decide +kernel
theorem dX5_sectorOf_30 : decode cX5_sectorOf 30 = .ok (.aload_n 0, 1) := by decide +kernel
theorem dX5_sectorOf_31 : decode cX5_sectorOf 31 = .ok (.getfield 57, 3) := by decide +kernel
theorem dX5_sectorOf_34 : decode cX5_sectorOf 34 = .ok (.lmul, 1) := by decide +kernel
theorem dX5_sectorOf_35 : decode cX5_sectorOf 35 = .ok (.lload 5, 2) := by decide +kernel
theorem dX5_sectorOf_37 : decode cX5_sectorOf 37 = .ok (.aload_n 0, 1) := by decide +kernel
theorem dX5_sectorOf_38 : decode cX5_sectorOf 38 = .ok (.getfield 61, 3) := by decide +kernel
theorem dX5_sectorOf_41 : decode cX5_sectorOf 41 = .ok (.lmul, 1) := by decide +kernel
theorem dX5_sectorOf_42 : decode cX5_sectorOf 42 = .ok (.ladd, 1) := by decide +kernel
theorem dX5_sectorOf_43 : decode cX5_sectorOf 43 = .ok (.lstore 7, 2) := by decide +kernel
theorem dX5_sectorOf_45 : decode cX5_sectorOf 45 = .ok (.lload_n 3, 1) := by decide +kernel
theorem dX5_sectorOf_46 : decode cX5_sectorOf 46 = .ok (.aload_n 0, 1) := by decide +kernel
theorem dX5_sectorOf_47 : decode cX5_sectorOf 47 = .ok (.getfield 61, 3) := by decide +kernel
theorem dX5_sectorOf_50 : decode cX5_sectorOf 50 = .ok (.lmul, 1) := by decide +kernel
theorem dX5_sectorOf_51 : decode cX5_sectorOf 51 = .ok (.lload 5, 2) := by decide +kernel
theorem dX5_sectorOf_53 : decode cX5_sectorOf 53 = .ok (.aload_n 0, 1) := by decide +kernel
theorem dX5_sectorOf_54 : decode cX5_sectorOf 54 = .ok (.getfield 57, 3) := by decide +kernel
theorem dX5_sectorOf_57 : decode cX5_sectorOf 57 = .ok (.lmul, 1) := by decide +kernel
theorem dX5_sectorOf_58 : decode cX5_sectorOf 58 = .ok (.lsub, 1) := by decide +kernel
theorem dX5_sectorOf_59 : decode cX5_sectorOf 59 = .ok (.lstore 9, 2) := by decide +kernel
theorem dX5_sectorOf_61 : decode cX5_sectorOf 61 = .ok (.lload 9, 2) := by decide +kernel
theorem dX5_sectorOf_63 : decode cX5_sectorOf 63 = .ok (.lconst 0, 1) := by decide +kernel
theorem dX5_sectorOf_64 : decode cX5_sectorOf 64 = .ok (.lcmp, 1) := by decide +kernel
theorem dX5_sectorOf_65 : decode cX5_sectorOf 65 = .ok (.ifCond .ge 9, 3) := by decide +kernel
theorem dX5_sectorOf_68 : decode cX5_sectorOf 68 = .ok (.lload 9, 2) := by decide +kernel
theorem dX5_sectorOf_70 : decode cX5_sectorOf 70 = .ok (.lneg, 1) := by decide +kernel
theorem dX5_sectorOf_71 : decode cX5_sectorOf 71 = .ok (.goto 5, 3) := by decide +kernel
theorem dX5_sectorOf_74 : decode cX5_sectorOf 74 = .ok (.lload 9, 2) := by decide +kernel
theorem dX5_sectorOf_76 : decode cX5_sectorOf 76 = .ok (.lstore 11, 2) := by decide +kernel
theorem dX5_sectorOf_78 : decode cX5_sectorOf 78 = .ok (.aload_n 0, 1) := by decide +kernel
theorem dX5_sectorOf_79 : decode cX5_sectorOf 79 = .ok (.invokevirtual 87, 3) := by decide +kernel
theorem dX5_sectorOf_82 : decode cX5_sectorOf 82 = .ok (.lconst 0, 1) := by decide +kernel
theorem dX5_sectorOf_83 : decode cX5_sectorOf 83 = .ok (.lcmp, 1) := by decide +kernel
theorem dX5_sectorOf_84 : decode cX5_sectorOf 84 = .ok (.ifCond .eq 22, 3) := by decide +kernel
theorem dX5_sectorOf_87 : decode cX5_sectorOf 87 = .ok (.lload 7, 2) := by decide +kernel
theorem dX5_sectorOf_89 : decode cX5_sectorOf 89 = .ok (.lconst 0, 1) := by decide +kernel
theorem dX5_sectorOf_90 : decode cX5_sectorOf 90 = .ok (.lcmp, 1) := by decide +kernel
theorem dX5_sectorOf_91 : decode cX5_sectorOf 91 = .ok (.ifCond .le 17, 3) := by decide +kernel
theorem dX5_sectorOf_94 : decode cX5_sectorOf 94 = .ok (.ldc2_w 111, 3) := by decide +kernel
theorem dX5_sectorOf_97 : decode cX5_sectorOf 97 = .ok (.lload 11, 2) := by decide +kernel
theorem dX5_sectorOf_99 : decode cX5_sectorOf 99 = .ok (.lmul, 1) := by decide +kernel
theorem dX5_sectorOf_100 : decode cX5_sectorOf 100 = .ok (.lload 7, 2) := by decide +kernel
theorem dX5_sectorOf_102 : decode cX5_sectorOf 102 = .ok (.lcmp, 1) := by decide +kernel
theorem dX5_sectorOf_103 : decode cX5_sectorOf 103 = .ok (.ifCond .gt 5, 3) := by decide +kernel
theorem dX5_sectorOf_106 : decode cX5_sectorOf 106 = .ok (.iconst 0, 1) := by decide +kernel
theorem dX5_sectorOf_107 : decode cX5_sectorOf 107 = .ok (.ireturn, 1) := by decide +kernel
theorem dX5_sectorOf_108 : decode cX5_sectorOf 108 = .ok (.lload 7, 2) := by decide +kernel
theorem dX5_sectorOf_110 : decode cX5_sectorOf 110 = .ok (.lconst 0, 1) := by decide +kernel
theorem dX5_sectorOf_111 : decode cX5_sectorOf 111 = .ok (.lcmp, 1) := by decide +kernel
theorem dX5_sectorOf_112 : decode cX5_sectorOf 112 = .ok (.ifCond .ge 17, 3) := by decide +kernel
theorem dX5_sectorOf_115 : decode cX5_sectorOf 115 = .ok (.lload 11, 2) := by decide +kernel
theorem dX5_sectorOf_117 : decode cX5_sectorOf 117 = .ok (.ldc2_w 113, 3) := by decide +kernel
theorem dX5_sectorOf_120 : decode cX5_sectorOf 120 = .ok (.lload 7, 2) := by decide +kernel
theorem dX5_sectorOf_122 : decode cX5_sectorOf 122 = .ok (.lmul, 1) := by decide +kernel
theorem dX5_sectorOf_123 : decode cX5_sectorOf 123 = .ok (.lcmp, 1) := by decide +kernel
theorem dX5_sectorOf_124 : decode cX5_sectorOf 124 = .ok (.ifCond .gt 5, 3) := by decide +kernel
theorem dX5_sectorOf_127 : decode cX5_sectorOf 127 = .ok (.iconst 3, 1) := by decide +kernel
theorem dX5_sectorOf_128 : decode cX5_sectorOf 128 = .ok (.ireturn, 1) := by decide +kernel
theorem dX5_sectorOf_129 : decode cX5_sectorOf 129 = .ok (.lload 9, 2) := by decide +kernel
theorem dX5_sectorOf_131 : decode cX5_sectorOf 131 = .ok (.lconst 0, 1) := by decide +kernel
theorem dX5_sectorOf_132 : decode cX5_sectorOf 132 = .ok (.lcmp, 1) := by decide +kernel
theorem dX5_sectorOf_133 : decode cX5_sectorOf 133 = .ok (.ifCond .ge 7, 3) := by decide +kernel
theorem dX5_sectorOf_136 : decode cX5_sectorOf 136 = .ok (.iconst 1, 1) := by decide +kernel
theorem dX5_sectorOf_137 : decode cX5_sectorOf 137 = .ok (.goto 4, 3) := by decide +kernel
theorem dX5_sectorOf_140 : decode cX5_sectorOf 140 = .ok (.iconst 2, 1) := by decide +kernel
theorem dX5_sectorOf_141 : decode cX5_sectorOf 141 = .ok (.ireturn, 1) := by decide +kernel
set_option maxRecDepth 20000 in
theorem ggX5_tableOf_X5_haveRisk : GoodIn wsX5_tableOf wsX5_haveRisk := goodIn_r _ [5, 6, 7, 8, 4, 9, 10, 11, 12, 13, 14, 15, 16, 17, 18, 19, 20, 21, 22, 23, 24, 25, 26, 27, 28, 29, 30, 31, 32, 33, 34, 35, 36, 37, 38, 39, 40, 41, 42, 43, 44, 45, 46, 47, 48, 49, 50, 51, 58, 59, 60, 61, 62, 63, 64, 65, 66, 67, 68, 69, 70, 71, 72, 73, 74, 75, 76, 77, 78] (by decide +kernel) (by decide +kernel)
set_option maxRecDepth 20000 in
theorem gX5_tableOf_X5_haveRisk : GoodIn wsX5_tableOf (wsV RX5 115 RX5 yX5_haveRisk wsX5_haveRisk) := goodIn_app (goodIn_of _ (by decide +kernel)) ggX5_tableOf_X5_haveRisk
set_option maxRecDepth 20000 in
theorem ggX5_tableOf_X5_sectorOf : GoodIn wsX5_tableOf wsX5_sectorOf := goodIn_r _ [55, 19, 20, 56, 57, 6, 7, 8, 4, 9, 10, 11, 12, 13, 14, 15, 16, 17, 18, 21, 22, 23, 24, 25, 26, 27, 28, 45, 46, 47, 48, 58, 59, 60, 61, 62, 63, 64, 65, 66, 67, 68, 69, 70, 71, 72, 73, 74, 75, 76, 77, 78] (by decide +kernel) (by decide +kernel)
set_option maxRecDepth 20000 in
theorem gX5_tableOf_X5_sectorOf : GoodIn wsX5_tableOf (wsV RX5 119 RX5 yX5_sectorOf wsX5_sectorOf) := goodIn_app (goodIn_of _ (by decide +kernel)) ggX5_tableOf_X5_sectorOf
theorem dX5_tableOf_0 : decode cX5_tableOf 0 = .ok (.aload_n 0, 1) := by decide +kernel
theorem dX5_tableOf_1 : decode cX5_tableOf 1 = .ok (.iload_n 1, 1) := by decide +kernel
theorem dX5_tableOf_2 : decode cX5_tableOf 2 = .ok (.iload_n 2, 1) := by decide +kernel
theorem dX5_tableOf_3 : decode cX5_tableOf 3 = .ok (.invokevirtual 115, 3) := by decide +kernel
theorem dX5_tableOf_6 : decode cX5_tableOf 6 = .ok (.ifCond .ne 5, 3) := by decide +kernel
theorem dX5_tableOf_9 : decode cX5_tableOf 9 = .ok (.iconst 0, 1) := by decide +kernel
theorem dX5_tableOf_10 : decode cX5_tableOf 10 = .ok (.ireturn, 1) := by decide +kernel
theorem dX5_tableOf_11 : decode cX5_tableOf 11 = .ok (.aload_n 0, 1) := by decide +kernel
theorem dX5_tableOf_12 : decode cX5_tableOf 12 = .ok (.iload_n 1, 1) := by decide +kernel
theorem dX5_tableOf_13 : decode cX5_tableOf 13 = .ok (.iload_n 2, 1) := by decide +kernel
theorem dX5_tableOf_14 : decode cX5_tableOf 14 = .ok (.invokevirtual 119, 3) := by decide +kernel
theorem dX5_tableOf_17 : decode cX5_tableOf 17 = .ok (.istore_n 3, 1) := by decide +kernel
theorem dX5_tableOf_18 : decode cX5_tableOf 18 = .ok (.aload_n 0, 1) := by decide +kernel
theorem dX5_tableOf_19 : decode cX5_tableOf 19 = .ok (.iload_n 2, 1) := by decide +kernel
theorem dX5_tableOf_20 : decode cX5_tableOf 20 = .ok (.iload_n 1, 1) := by decide +kernel
theorem dX5_tableOf_21 : decode cX5_tableOf 21 = .ok (.invokevirtual 119, 3) := by decide +kernel
theorem dX5_tableOf_24 : decode cX5_tableOf 24 = .ok (.istore 4, 2) := by decide +kernel
theorem dX5_tableOf_26 : decode cX5_tableOf 26 = .ok (.iload 4, 2) := by decide +kernel
theorem dX5_tableOf_28 : decode cX5_tableOf 28 = .ok (.iconst 3, 1) := by decide +kernel
theorem dX5_tableOf_29 : decode cX5_tableOf 29 = .ok (.if_icmp .eq 8, 3) := by decide +kernel
theorem dX5_tableOf_32 : decode cX5_tableOf 32 = .ok (.iload_n 3, 1) := by decide +kernel
theorem dX5_tableOf_33 : decode cX5_tableOf 33 = .ok (.iconst 3, 1) := by decide +kernel
theorem dX5_tableOf_34 : decode cX5_tableOf 34 = .ok (.if_icmp .ne 15, 3) := by decide +kernel
theorem dX5_tableOf_37 : decode cX5_tableOf 37 = .ok (.iload 4, 2) := by decide +kernel
theorem dX5_tableOf_39 : decode cX5_tableOf 39 = .ok (.iconst 3, 1) := by decide +kernel
theorem dX5_tableOf_40 : decode cX5_tableOf 40 = .ok (.if_icmp .ne 7, 3) := by decide +kernel
theorem dX5_tableOf_43 : decode cX5_tableOf 43 = .ok (.iconst 1, 1) := by decide +kernel
theorem dX5_tableOf_44 : decode cX5_tableOf 44 = .ok (.goto 4, 3) := by decide +kernel
theorem dX5_tableOf_47 : decode cX5_tableOf 47 = .ok (.iconst 2, 1) := by decide +kernel
theorem dX5_tableOf_48 : decode cX5_tableOf 48 = .ok (.ireturn, 1) := by decide +kernel
theorem dX5_tableOf_49 : decode cX5_tableOf 49 = .ok (.iload_n 3, 1) := by decide +kernel
theorem dX5_tableOf_50 : decode cX5_tableOf 50 = .ok (.ifCond .eq 5, 3) := by decide +kernel
theorem dX5_tableOf_53 : decode cX5_tableOf 53 = .ok (.iload_n 3, 1) := by decide +kernel
theorem dX5_tableOf_54 : decode cX5_tableOf 54 = .ok (.ireturn, 1) := by decide +kernel
theorem dX5_tableOf_55 : decode cX5_tableOf 55 = .ok (.iload 4, 2) := by decide +kernel
theorem dX5_tableOf_57 : decode cX5_tableOf 57 = .ok (.iconst 1, 1) := by decide +kernel
theorem dX5_tableOf_58 : decode cX5_tableOf 58 = .ok (.if_icmp .ne 7, 3) := by decide +kernel
theorem dX5_tableOf_61 : decode cX5_tableOf 61 = .ok (.iconst 2, 1) := by decide +kernel
theorem dX5_tableOf_62 : decode cX5_tableOf 62 = .ok (.goto 4, 3) := by decide +kernel
theorem dX5_tableOf_65 : decode cX5_tableOf 65 = .ok (.iconst 1, 1) := by decide +kernel
theorem dX5_tableOf_66 : decode cX5_tableOf 66 = .ok (.ireturn, 1) := by decide +kernel
set_option maxRecDepth 20000 in
theorem ggX5_putOther_X5_isPlace : GoodIn wsX5_putOther wsX5_isPlace := goodIn_r _ [5, 6, 7, 4, 8] (by decide +kernel) (by decide +kernel)
set_option maxRecDepth 20000 in
theorem gX5_putOther_X5_isPlace : GoodIn wsX5_putOther (va_wsS RX5 122 yX5_isPlace wsX5_isPlace) := goodIn_app (goodIn_of _ (by decide +kernel)) ggX5_putOther_X5_isPlace
set_option maxRecDepth 20000 in
theorem ggX5_putOther_X5_isCourse : GoodIn wsX5_putOther wsX5_isCourse := goodIn_r _ [11, 6, 7, 4, 8] (by decide +kernel) (by decide +kernel)
set_option maxRecDepth 20000 in
theorem gX5_putOther_X5_isCourse : GoodIn wsX5_putOther (va_wsS RX5 125 yX5_isCourse wsX5_isCourse) := goodIn_app (goodIn_of _ (by decide +kernel)) ggX5_putOther_X5_isCourse
set_option maxRecDepth 20000 in
theorem ggX5_putOther_X5_puts : GoodIn wsX5_putOther wsX5_puts := goodIn_r _ [15, 16, 17, 18, 4, 19, 1, 20, 21, 22, 23, 24, 25, 26, 27, 28, 29, 30, 31, 32, 33, 34, 35, 36, 37, 38, 39, 40] (by decide +kernel) (by decide +kernel)
set_option maxRecDepth 20000 in
theorem gX5_putOther_X5_puts : GoodIn wsX5_putOther (wsV RX5 128 RX5 yX5_puts wsX5_puts) := goodIn_app (goodIn_of _ (by decide +kernel)) ggX5_putOther_X5_puts
theorem dX5_putOther_0 : decode cX5_putOther 0 = .ok (.iload_n 1, 1) := by decide +kernel
theorem dX5_putOther_1 : decode cX5_putOther 1 = .ok (.iload_n 2, 1) := by decide +kernel
theorem dX5_putOther_2 : decode cX5_putOther 2 = .ok (.invokestatic 122, 3) := by decide +kernel
theorem dX5_putOther_5 : decode cX5_putOther 5 = .ok (.ifCond .eq 12, 3) := by decide +kernel
theorem dX5_putOther_8 : decode cX5_putOther 8 = .ok (.iload_n 3, 1) := by decide +kernel
theorem dX5_putOther_9 : decode cX5_putOther 9 = .ok (.iload 4, 2) := by decide +kernel
theorem dX5_putOther_11 : decode cX5_putOther 11 = .ok (.invokestatic 125, 3) := by decide +kernel
theorem dX5_putOther_14 : decode cX5_putOther 14 = .ok (.ifCond .ne 7, 3) := by decide +kernel
theorem dX5_putOther_17 : decode cX5_putOther 17 = .ok (.sipush (-10002), 3) := by decide +kernel
theorem dX5_putOther_20 : decode cX5_putOther 20 = .ok (.ireturn, 1) := by decide +kernel
theorem dX5_putOther_21 : decode cX5_putOther 21 = .ok (.aload_n 0, 1) := by decide +kernel
theorem dX5_putOther_22 : decode cX5_putOther 22 = .ok (.getfield 7, 3) := by decide +kernel
theorem dX5_putOther_25 : decode cX5_putOther 25 = .ok (.iconst 0, 1) := by decide +kernel
theorem dX5_putOther_26 : decode cX5_putOther 26 = .ok (.iaload, 1) := by decide +kernel
theorem dX5_putOther_27 : decode cX5_putOther 27 = .ok (.bipush 7, 2) := by decide +kernel
theorem dX5_putOther_29 : decode cX5_putOther 29 = .ok (.if_icmp .ne 7, 3) := by decide +kernel
theorem dX5_putOther_32 : decode cX5_putOther 32 = .ok (.sipush (-10004), 3) := by decide +kernel
theorem dX5_putOther_35 : decode cX5_putOther 35 = .ok (.ireturn, 1) := by decide +kernel
theorem dX5_putOther_36 : decode cX5_putOther 36 = .ok (.aload_n 0, 1) := by decide +kernel
theorem dX5_putOther_37 : decode cX5_putOther 37 = .ok (.getfield 7, 3) := by decide +kernel
theorem dX5_putOther_40 : decode cX5_putOther 40 = .ok (.iconst 0, 1) := by decide +kernel
theorem dX5_putOther_41 : decode cX5_putOther 41 = .ok (.iaload, 1) := by decide +kernel
theorem dX5_putOther_42 : decode cX5_putOther 42 = .ok (.istore 5, 2) := by decide +kernel
theorem dX5_putOther_44 : decode cX5_putOther 44 = .ok (.aload_n 0, 1) := by decide +kernel
theorem dX5_putOther_45 : decode cX5_putOther 45 = .ok (.getfield 7, 3) := by decide +kernel
theorem dX5_putOther_48 : decode cX5_putOther 48 = .ok (.iconst 0, 1) := by decide +kernel
theorem dX5_putOther_49 : decode cX5_putOther 49 = .ok (.dup2, 1) := by decide +kernel
theorem dX5_putOther_50 : decode cX5_putOther 50 = .ok (.iaload, 1) := by decide +kernel
theorem dX5_putOther_51 : decode cX5_putOther 51 = .ok (.iconst 1, 1) := by decide +kernel
theorem dX5_putOther_52 : decode cX5_putOther 52 = .ok (.iadd, 1) := by decide +kernel
theorem dX5_putOther_53 : decode cX5_putOther 53 = .ok (.iastore, 1) := by decide +kernel
theorem dX5_putOther_54 : decode cX5_putOther 54 = .ok (.aload_n 0, 1) := by decide +kernel
theorem dX5_putOther_55 : decode cX5_putOther 55 = .ok (.iload 5, 2) := by decide +kernel
theorem dX5_putOther_57 : decode cX5_putOther 57 = .ok (.iload_n 1, 1) := by decide +kernel
theorem dX5_putOther_58 : decode cX5_putOther 58 = .ok (.iload_n 2, 1) := by decide +kernel
theorem dX5_putOther_59 : decode cX5_putOther 59 = .ok (.iload_n 3, 1) := by decide +kernel
theorem dX5_putOther_60 : decode cX5_putOther 60 = .ok (.iload 4, 2) := by decide +kernel
theorem dX5_putOther_62 : decode cX5_putOther 62 = .ok (.invokevirtual 128, 3) := by decide +kernel
theorem dX5_putOther_65 : decode cX5_putOther 65 = .ok (.iload 5, 2) := by decide +kernel
theorem dX5_putOther_67 : decode cX5_putOther 67 = .ok (.ireturn, 1) := by decide +kernel
set_option maxRecDepth 20000 in
theorem ggX5_puts_X5_tells : GoodIn wsX5_puts wsX5_tells := goodIn_r _ [5, 6, 7, 8, 9, 10, 11, 12, 13, 14, 15, 16, 17, 18, 19, 20, 21, 22, 23, 24, 25, 26, 27] (by decide +kernel) (by decide +kernel)
set_option maxRecDepth 20000 in
theorem gX5_puts_X5_tells : GoodIn wsX5_puts (wsV RX5 132 RX5 yX5_tells wsX5_tells) := goodIn_app (goodIn_of _ (by decide +kernel)) ggX5_puts_X5_tells
theorem dX5_puts_0 : decode cX5_puts 0 = .ok (.aload_n 0, 1) := by decide +kernel
theorem dX5_puts_1 : decode cX5_puts 1 = .ok (.iload_n 1, 1) := by decide +kernel
theorem dX5_puts_2 : decode cX5_puts 2 = .ok (.iconst 0, 1) := by decide +kernel
theorem dX5_puts_3 : decode cX5_puts 3 = .ok (.iload_n 2, 1) := by decide +kernel
theorem dX5_puts_4 : decode cX5_puts 4 = .ok (.invokevirtual 132, 3) := by decide +kernel
theorem dX5_puts_7 : decode cX5_puts 7 = .ok (.aload_n 0, 1) := by decide +kernel
theorem dX5_puts_8 : decode cX5_puts 8 = .ok (.iload_n 1, 1) := by decide +kernel
theorem dX5_puts_9 : decode cX5_puts 9 = .ok (.iconst 1, 1) := by decide +kernel
theorem dX5_puts_10 : decode cX5_puts 10 = .ok (.iload_n 3, 1) := by decide +kernel
theorem dX5_puts_11 : decode cX5_puts 11 = .ok (.invokevirtual 132, 3) := by decide +kernel
theorem dX5_puts_14 : decode cX5_puts 14 = .ok (.aload_n 0, 1) := by decide +kernel
theorem dX5_puts_15 : decode cX5_puts 15 = .ok (.iload_n 1, 1) := by decide +kernel
theorem dX5_puts_16 : decode cX5_puts 16 = .ok (.iconst 2, 1) := by decide +kernel
theorem dX5_puts_17 : decode cX5_puts 17 = .ok (.iload 4, 2) := by decide +kernel
theorem dX5_puts_19 : decode cX5_puts 19 = .ok (.invokevirtual 132, 3) := by decide +kernel
theorem dX5_puts_22 : decode cX5_puts 22 = .ok (.aload_n 0, 1) := by decide +kernel
theorem dX5_puts_23 : decode cX5_puts 23 = .ok (.iload_n 1, 1) := by decide +kernel
theorem dX5_puts_24 : decode cX5_puts 24 = .ok (.iconst 3, 1) := by decide +kernel
theorem dX5_puts_25 : decode cX5_puts 25 = .ok (.iload 5, 2) := by decide +kernel
theorem dX5_puts_27 : decode cX5_puts 27 = .ok (.invokevirtual 132, 3) := by decide +kernel
theorem dX5_puts_30 : decode cX5_puts 30 = .ok (.aload_n 0, 1) := by decide +kernel
theorem dX5_puts_31 : decode cX5_puts 31 = .ok (.iload_n 1, 1) := by decide +kernel
theorem dX5_puts_32 : decode cX5_puts 32 = .ok (.iconst 4, 1) := by decide +kernel
theorem dX5_puts_33 : decode cX5_puts 33 = .ok (.iconst 0, 1) := by decide +kernel
theorem dX5_puts_34 : decode cX5_puts 34 = .ok (.invokevirtual 132, 3) := by decide +kernel
theorem dX5_puts_37 : decode cX5_puts 37 = .ok (.return_, 1) := by decide +kernel
set_option maxRecDepth 20000 in
theorem ggX5_putOwn_X5_isPlace : GoodIn wsX5_putOwn wsX5_isPlace := goodIn_r _ [5, 6, 7, 4, 8] (by decide +kernel) (by decide +kernel)
set_option maxRecDepth 20000 in
theorem gX5_putOwn_X5_isPlace : GoodIn wsX5_putOwn (va_wsS RX5 122 yX5_isPlace wsX5_isPlace) := goodIn_app (goodIn_of _ (by decide +kernel)) ggX5_putOwn_X5_isPlace
set_option maxRecDepth 20000 in
theorem ggX5_putOwn_X5_isCourse : GoodIn wsX5_putOwn wsX5_isCourse := goodIn_r _ [11, 6, 7, 4, 8] (by decide +kernel) (by decide +kernel)
set_option maxRecDepth 20000 in
theorem gX5_putOwn_X5_isCourse : GoodIn wsX5_putOwn (va_wsS RX5 125 yX5_isCourse wsX5_isCourse) := goodIn_app (goodIn_of _ (by decide +kernel)) ggX5_putOwn_X5_isCourse
set_option maxRecDepth 20000 in
theorem ggX5_putOwn_X5_puts : GoodIn wsX5_putOwn wsX5_puts := goodIn_r _ [15, 16, 17, 18, 4, 19, 1, 20, 21, 22, 23, 24, 25, 26, 27, 28, 29, 30, 31, 32, 33, 34, 35, 36, 37, 38, 39, 40] (by decide +kernel) (by decide +kernel)
set_option maxRecDepth 20000 in
theorem gX5_putOwn_X5_puts : GoodIn wsX5_putOwn (wsV RX5 128 RX5 yX5_puts wsX5_puts) := goodIn_app (goodIn_of _ (by decide +kernel)) ggX5_putOwn_X5_puts
set_option maxRecDepth 20000 in
theorem ggX5_putOwn_X5_tells : GoodIn wsX5_putOwn wsX5_tells := goodIn_r _ [19, 1, 20, 21, 22, 23, 24, 25, 26, 27, 28, 29, 30, 31, 32, 33, 34, 35, 36, 37, 38, 39, 40] (by decide +kernel) (by decide +kernel)
set_option maxRecDepth 20000 in
theorem gX5_putOwn_X5_tells : GoodIn wsX5_putOwn (wsV RX5 132 RX5 yX5_tells wsX5_tells) := goodIn_app (goodIn_of _ (by decide +kernel)) ggX5_putOwn_X5_tells
theorem dX5_putOwn_0 : decode cX5_putOwn 0 = .ok (.iload_n 1, 1) := by decide +kernel
theorem dX5_putOwn_1 : decode cX5_putOwn 1 = .ok (.iload_n 2, 1) := by decide +kernel
theorem dX5_putOwn_2 : decode cX5_putOwn 2 = .ok (.invokestatic 122, 3) := by decide +kernel
theorem dX5_putOwn_5 : decode cX5_putOwn 5 = .ok (.ifCond .eq 12, 3) := by decide +kernel
theorem dX5_putOwn_8 : decode cX5_putOwn 8 = .ok (.iload_n 3, 1) := by decide +kernel
theorem dX5_putOwn_9 : decode cX5_putOwn 9 = .ok (.iload 4, 2) := by decide +kernel
theorem dX5_putOwn_11 : decode cX5_putOwn 11 = .ok (.invokestatic 125, 3) := by decide +kernel
theorem dX5_putOwn_14 : decode cX5_putOwn 14 = .ok (.ifCond .ne 7, 3) := by decide +kernel
theorem dX5_putOwn_17 : decode cX5_putOwn 17 = .ok (.sipush (-10002), 3) := by decide +kernel
theorem dX5_putOwn_20 : decode cX5_putOwn 20 = .ok (.ireturn, 1) := by decide +kernel
theorem dX5_putOwn_21 : decode cX5_putOwn 21 = .ok (.aload_n 0, 1) := by decide +kernel
theorem dX5_putOwn_22 : decode cX5_putOwn 22 = .ok (.iconst 0, 1) := by decide +kernel
theorem dX5_putOwn_23 : decode cX5_putOwn 23 = .ok (.iload_n 1, 1) := by decide +kernel
theorem dX5_putOwn_24 : decode cX5_putOwn 24 = .ok (.iload_n 2, 1) := by decide +kernel
theorem dX5_putOwn_25 : decode cX5_putOwn 25 = .ok (.iload_n 3, 1) := by decide +kernel
theorem dX5_putOwn_26 : decode cX5_putOwn 26 = .ok (.iload 4, 2) := by decide +kernel
theorem dX5_putOwn_28 : decode cX5_putOwn 28 = .ok (.invokevirtual 128, 3) := by decide +kernel
theorem dX5_putOwn_31 : decode cX5_putOwn 31 = .ok (.iconst 1, 1) := by decide +kernel
theorem dX5_putOwn_32 : decode cX5_putOwn 32 = .ok (.istore 5, 2) := by decide +kernel
theorem dX5_putOwn_34 : decode cX5_putOwn 34 = .ok (.iload 5, 2) := by decide +kernel
theorem dX5_putOwn_36 : decode cX5_putOwn 36 = .ok (.aload_n 0, 1) := by decide +kernel
theorem dX5_putOwn_37 : decode cX5_putOwn 37 = .ok (.getfield 7, 3) := by decide +kernel
theorem dX5_putOwn_40 : decode cX5_putOwn 40 = .ok (.iconst 0, 1) := by decide +kernel
theorem dX5_putOwn_41 : decode cX5_putOwn 41 = .ok (.iaload, 1) := by decide +kernel
theorem dX5_putOwn_42 : decode cX5_putOwn 42 = .ok (.if_icmp .ge 17, 3) := by decide +kernel
theorem dX5_putOwn_45 : decode cX5_putOwn 45 = .ok (.aload_n 0, 1) := by decide +kernel
theorem dX5_putOwn_46 : decode cX5_putOwn 46 = .ok (.iload 5, 2) := by decide +kernel
theorem dX5_putOwn_48 : decode cX5_putOwn 48 = .ok (.iconst 4, 1) := by decide +kernel
theorem dX5_putOwn_49 : decode cX5_putOwn 49 = .ok (.iconst 0, 1) := by decide +kernel
theorem dX5_putOwn_50 : decode cX5_putOwn 50 = .ok (.invokevirtual 132, 3) := by decide +kernel
theorem dX5_putOwn_53 : decode cX5_putOwn 53 = .ok (.iinc 5 1, 3) := by decide +kernel
theorem dX5_putOwn_56 : decode cX5_putOwn 56 = .ok (.goto (-22), 3) := by decide +kernel
theorem dX5_putOwn_59 : decode cX5_putOwn 59 = .ok (.aload_n 0, 1) := by decide +kernel
theorem dX5_putOwn_60 : decode cX5_putOwn 60 = .ok (.getfield 7, 3) := by decide +kernel
theorem dX5_putOwn_63 : decode cX5_putOwn 63 = .ok (.iconst 3, 1) := by decide +kernel
theorem dX5_putOwn_64 : decode cX5_putOwn 64 = .ok (.iconst 0, 1) := by decide +kernel
theorem dX5_putOwn_65 : decode cX5_putOwn 65 = .ok (.iastore, 1) := by decide +kernel
theorem dX5_putOwn_66 : decode cX5_putOwn 66 = .ok (.aload_n 0, 1) := by decide +kernel
theorem dX5_putOwn_67 : decode cX5_putOwn 67 = .ok (.getfield 7, 3) := by decide +kernel
theorem dX5_putOwn_70 : decode cX5_putOwn 70 = .ok (.iconst 0, 1) := by decide +kernel
theorem dX5_putOwn_71 : decode cX5_putOwn 71 = .ok (.iaload, 1) := by decide +kernel
theorem dX5_putOwn_72 : decode cX5_putOwn 72 = .ok (.iconst 1, 1) := by decide +kernel
theorem dX5_putOwn_73 : decode cX5_putOwn 73 = .ok (.isub, 1) := by decide +kernel
theorem dX5_putOwn_74 : decode cX5_putOwn 74 = .ok (.ireturn, 1) := by decide +kernel
set_option maxRecDepth 20000 in
theorem ggX5_putAway_X5_isOther : GoodIn wsX5_putAway wsX5_isOther := goodIn_r _ [6, 7, 8, 9, 5, 10, 1, 11, 12, 13, 14, 15, 16, 17, 18, 19, 20, 21, 22, 23, 24, 25, 26, 27, 28, 29, 30, 31, 32, 33, 34] (by decide +kernel) (by decide +kernel)
set_option maxRecDepth 20000 in
theorem gX5_putAway_X5_isOther : GoodIn wsX5_putAway (wsV RX5 136 RX5 yX5_isOther wsX5_isOther) := goodIn_app (goodIn_of _ (by decide +kernel)) ggX5_putAway_X5_isOther
theorem dX5_putAway_0 : decode cX5_putAway 0 = .ok (.aload_n 0, 1) := by decide +kernel
theorem dX5_putAway_1 : decode cX5_putAway 1 = .ok (.iload_n 1, 1) := by decide +kernel
theorem dX5_putAway_2 : decode cX5_putAway 2 = .ok (.invokevirtual 136, 3) := by decide +kernel
theorem dX5_putAway_5 : decode cX5_putAway 5 = .ok (.ifCond .ne 7, 3) := by decide +kernel
theorem dX5_putAway_8 : decode cX5_putAway 8 = .ok (.sipush (-10002), 3) := by decide +kernel
theorem dX5_putAway_11 : decode cX5_putAway 11 = .ok (.ireturn, 1) := by decide +kernel
theorem dX5_putAway_12 : decode cX5_putAway 12 = .ok (.aload_n 0, 1) := by decide +kernel
theorem dX5_putAway_13 : decode cX5_putAway 13 = .ok (.getfield 7, 3) := by decide +kernel
theorem dX5_putAway_16 : decode cX5_putAway 16 = .ok (.iconst 0, 1) := by decide +kernel
theorem dX5_putAway_17 : decode cX5_putAway 17 = .ok (.dup2, 1) := by decide +kernel
theorem dX5_putAway_18 : decode cX5_putAway 18 = .ok (.iaload, 1) := by decide +kernel
theorem dX5_putAway_19 : decode cX5_putAway 19 = .ok (.iconst 1, 1) := by decide +kernel
theorem dX5_putAway_20 : decode cX5_putAway 20 = .ok (.isub, 1) := by decide +kernel
theorem dX5_putAway_21 : decode cX5_putAway 21 = .ok (.iastore, 1) := by decide +kernel
theorem dX5_putAway_22 : decode cX5_putAway 22 = .ok (.iconst 4, 1) := by decide +kernel
theorem dX5_putAway_23 : decode cX5_putAway 23 = .ok (.iconst 5, 1) := by decide +kernel
theorem dX5_putAway_24 : decode cX5_putAway 24 = .ok (.iload_n 1, 1) := by decide +kernel
theorem dX5_putAway_25 : decode cX5_putAway 25 = .ok (.imul, 1) := by decide +kernel
theorem dX5_putAway_26 : decode cX5_putAway 26 = .ok (.iadd, 1) := by decide +kernel
theorem dX5_putAway_27 : decode cX5_putAway 27 = .ok (.istore_n 2, 1) := by decide +kernel
theorem dX5_putAway_28 : decode cX5_putAway 28 = .ok (.iload_n 2, 1) := by decide +kernel
theorem dX5_putAway_29 : decode cX5_putAway 29 = .ok (.bipush 39, 2) := by decide +kernel
theorem dX5_putAway_31 : decode cX5_putAway 31 = .ok (.if_icmp .ge 35, 3) := by decide +kernel
theorem dX5_putAway_34 : decode cX5_putAway 34 = .ok (.aload_n 0, 1) := by decide +kernel
theorem dX5_putAway_35 : decode cX5_putAway 35 = .ok (.getfield 7, 3) := by decide +kernel
theorem dX5_putAway_38 : decode cX5_putAway 38 = .ok (.iload_n 2, 1) := by decide +kernel
theorem dX5_putAway_39 : decode cX5_putAway 39 = .ok (.iload_n 2, 1) := by decide +kernel
theorem dX5_putAway_40 : decode cX5_putAway 40 = .ok (.iconst 5, 1) := by decide +kernel
theorem dX5_putAway_41 : decode cX5_putAway 41 = .ok (.iadd, 1) := by decide +kernel
theorem dX5_putAway_42 : decode cX5_putAway 42 = .ok (.bipush 39, 2) := by decide +kernel
theorem dX5_putAway_44 : decode cX5_putAway 44 = .ok (.if_icmp .ge 14, 3) := by decide +kernel
theorem dX5_putAway_47 : decode cX5_putAway 47 = .ok (.aload_n 0, 1) := by decide +kernel
theorem dX5_putAway_48 : decode cX5_putAway 48 = .ok (.getfield 7, 3) := by decide +kernel
theorem dX5_putAway_51 : decode cX5_putAway 51 = .ok (.iload_n 2, 1) := by decide +kernel
theorem dX5_putAway_52 : decode cX5_putAway 52 = .ok (.iconst 5, 1) := by decide +kernel
theorem dX5_putAway_53 : decode cX5_putAway 53 = .ok (.iadd, 1) := by decide +kernel
theorem dX5_putAway_54 : decode cX5_putAway 54 = .ok (.iaload, 1) := by decide +kernel
theorem dX5_putAway_55 : decode cX5_putAway 55 = .ok (.goto 4, 3) := by decide +kernel
theorem dX5_putAway_58 : decode cX5_putAway 58 = .ok (.iconst 0, 1) := by decide +kernel
theorem dX5_putAway_59 : decode cX5_putAway 59 = .ok (.iastore, 1) := by decide +kernel
theorem dX5_putAway_60 : decode cX5_putAway 60 = .ok (.iinc 2 1, 3) := by decide +kernel
theorem dX5_putAway_63 : decode cX5_putAway 63 = .ok (.goto (-35), 3) := by decide +kernel
theorem dX5_putAway_66 : decode cX5_putAway 66 = .ok (.aload_n 0, 1) := by decide +kernel
theorem dX5_putAway_67 : decode cX5_putAway 67 = .ok (.getfield 7, 3) := by decide +kernel
theorem dX5_putAway_70 : decode cX5_putAway 70 = .ok (.iconst 0, 1) := by decide +kernel
theorem dX5_putAway_71 : decode cX5_putAway 71 = .ok (.iaload, 1) := by decide +kernel
theorem dX5_putAway_72 : decode cX5_putAway 72 = .ok (.iconst 1, 1) := by decide +kernel
theorem dX5_putAway_73 : decode cX5_putAway 73 = .ok (.isub, 1) := by decide +kernel
theorem dX5_putAway_74 : decode cX5_putAway 74 = .ok (.ireturn, 1) := by decide +kernel
set_option maxRecDepth 20000 in
theorem ggX5_putCourse_X5_isShip : GoodIn wsX5_putCourse wsX5_isShip := goodIn_r _ [5, 6, 7, 8, 4, 9, 21, 22, 23, 24, 25, 26, 27, 28, 29, 30, 31, 32, 33, 34, 35, 36, 37, 38, 39, 40, 41] (by decide +kernel) (by decide +kernel)
set_option maxRecDepth 20000 in
theorem gX5_putCourse_X5_isShip : GoodIn wsX5_putCourse (wsV RX5 46 RX5 yX5_isShip wsX5_isShip) := goodIn_app (goodIn_of _ (by decide +kernel)) ggX5_putCourse_X5_isShip
set_option maxRecDepth 20000 in
theorem ggX5_putCourse_X5_isCourse : GoodIn wsX5_putCourse wsX5_isCourse := goodIn_r _ [12, 7, 8, 4, 9] (by decide +kernel) (by decide +kernel)
set_option maxRecDepth 20000 in
theorem gX5_putCourse_X5_isCourse : GoodIn wsX5_putCourse (va_wsS RX5 125 yX5_isCourse wsX5_isCourse) := goodIn_app (goodIn_of _ (by decide +kernel)) ggX5_putCourse_X5_isCourse
set_option maxRecDepth 20000 in
theorem ggX5_putCourse_X5_shipOf : GoodIn wsX5_putCourse wsX5_shipOf := goodIn_r _ [16, 6, 21, 22, 23, 24, 25, 26, 27, 28, 29, 30, 31, 32, 33, 34, 35, 36, 37, 38, 39, 40, 41] (by decide +kernel) (by decide +kernel)
set_option maxRecDepth 20000 in
theorem gX5_putCourse_X5_shipOf : GoodIn wsX5_putCourse (wsV RX5 53 RX5 yX5_shipOf wsX5_shipOf) := goodIn_app (goodIn_of _ (by decide +kernel)) ggX5_putCourse_X5_shipOf
set_option maxRecDepth 20000 in
theorem ggX5_putCourse_X5_tells : GoodIn wsX5_putCourse wsX5_tells := goodIn_r _ [20, 6, 21, 22, 23, 24, 25, 26, 27, 28, 29, 30, 31, 32, 33, 34, 35, 36, 37, 38, 39, 40, 41] (by decide +kernel) (by decide +kernel)
set_option maxRecDepth 20000 in
theorem gX5_putCourse_X5_tells : GoodIn wsX5_putCourse (wsV RX5 132 RX5 yX5_tells wsX5_tells) := goodIn_app (goodIn_of _ (by decide +kernel)) ggX5_putCourse_X5_tells
theorem dX5_putCourse_0 : decode cX5_putCourse 0 = .ok (.aload_n 0, 1) := by decide +kernel
theorem dX5_putCourse_1 : decode cX5_putCourse 1 = .ok (.iload_n 1, 1) := by decide +kernel
theorem dX5_putCourse_2 : decode cX5_putCourse 2 = .ok (.invokevirtual 46, 3) := by decide +kernel
theorem dX5_putCourse_5 : decode cX5_putCourse 5 = .ok (.ifCond .eq 11, 3) := by decide +kernel
theorem dX5_putCourse_8 : decode cX5_putCourse 8 = .ok (.iload_n 2, 1) := by decide +kernel
theorem dX5_putCourse_9 : decode cX5_putCourse 9 = .ok (.iload_n 3, 1) := by decide +kernel
theorem dX5_putCourse_10 : decode cX5_putCourse 10 = .ok (.invokestatic 125, 3) := by decide +kernel
theorem dX5_putCourse_13 : decode cX5_putCourse 13 = .ok (.ifCond .ne 7, 3) := by decide +kernel
theorem dX5_putCourse_16 : decode cX5_putCourse 16 = .ok (.sipush (-10002), 3) := by decide +kernel
theorem dX5_putCourse_19 : decode cX5_putCourse 19 = .ok (.ireturn, 1) := by decide +kernel
theorem dX5_putCourse_20 : decode cX5_putCourse 20 = .ok (.bipush 16, 2) := by decide +kernel
theorem dX5_putCourse_22 : decode cX5_putCourse 22 = .ok (.aload_n 0, 1) := by decide +kernel
theorem dX5_putCourse_23 : decode cX5_putCourse 23 = .ok (.iload_n 1, 1) := by decide +kernel
theorem dX5_putCourse_24 : decode cX5_putCourse 24 = .ok (.iconst 3, 1) := by decide +kernel
theorem dX5_putCourse_25 : decode cX5_putCourse 25 = .ok (.invokevirtual 53, 3) := by decide +kernel
theorem dX5_putCourse_28 : decode cX5_putCourse 28 = .ok (.imul, 1) := by decide +kernel
theorem dX5_putCourse_29 : decode cX5_putCourse 29 = .ok (.aload_n 0, 1) := by decide +kernel
theorem dX5_putCourse_30 : decode cX5_putCourse 30 = .ok (.iload_n 1, 1) := by decide +kernel
theorem dX5_putCourse_31 : decode cX5_putCourse 31 = .ok (.iconst 2, 1) := by decide +kernel
theorem dX5_putCourse_32 : decode cX5_putCourse 32 = .ok (.invokevirtual 53, 3) := by decide +kernel
theorem dX5_putCourse_35 : decode cX5_putCourse 35 = .ok (.iadd, 1) := by decide +kernel
theorem dX5_putCourse_36 : decode cX5_putCourse 36 = .ok (.istore 4, 2) := by decide +kernel
theorem dX5_putCourse_38 : decode cX5_putCourse 38 = .ok (.aload_n 0, 1) := by decide +kernel
theorem dX5_putCourse_39 : decode cX5_putCourse 39 = .ok (.iload_n 1, 1) := by decide +kernel
theorem dX5_putCourse_40 : decode cX5_putCourse 40 = .ok (.iconst 2, 1) := by decide +kernel
theorem dX5_putCourse_41 : decode cX5_putCourse 41 = .ok (.iload_n 2, 1) := by decide +kernel
theorem dX5_putCourse_42 : decode cX5_putCourse 42 = .ok (.invokevirtual 132, 3) := by decide +kernel
theorem dX5_putCourse_45 : decode cX5_putCourse 45 = .ok (.aload_n 0, 1) := by decide +kernel
theorem dX5_putCourse_46 : decode cX5_putCourse 46 = .ok (.iload_n 1, 1) := by decide +kernel
theorem dX5_putCourse_47 : decode cX5_putCourse 47 = .ok (.iconst 3, 1) := by decide +kernel
theorem dX5_putCourse_48 : decode cX5_putCourse 48 = .ok (.iload_n 3, 1) := by decide +kernel
theorem dX5_putCourse_49 : decode cX5_putCourse 49 = .ok (.invokevirtual 132, 3) := by decide +kernel
theorem dX5_putCourse_52 : decode cX5_putCourse 52 = .ok (.iload 4, 2) := by decide +kernel
theorem dX5_putCourse_54 : decode cX5_putCourse 54 = .ok (.ireturn, 1) := by decide +kernel
set_option maxRecDepth 20000 in
theorem ggX5_putSetting_X5_in : GoodIn wsX5_putSetting wsX5_in := goodIn_r _ [5] (by decide +kernel) (by decide +kernel)
set_option maxRecDepth 20000 in
theorem gX5_putSetting_X5_in : GoodIn wsX5_putSetting (va_wsS RX5 42 yX5_in wsX5_in) := goodIn_app (goodIn_of _ (by decide +kernel)) ggX5_putSetting_X5_in
theorem dX5_putSetting_0 : decode cX5_putSetting 0 = .ok (.iload_n 1, 1) := by decide +kernel
theorem dX5_putSetting_1 : decode cX5_putSetting 1 = .ok (.iconst 0, 1) := by decide +kernel
theorem dX5_putSetting_2 : decode cX5_putSetting 2 = .ok (.iconst 1, 1) := by decide +kernel
theorem dX5_putSetting_3 : decode cX5_putSetting 3 = .ok (.invokestatic 42, 3) := by decide +kernel
theorem dX5_putSetting_6 : decode cX5_putSetting 6 = .ok (.ifCond .eq 23, 3) := by decide +kernel
theorem dX5_putSetting_9 : decode cX5_putSetting 9 = .ok (.iload_n 2, 1) := by decide +kernel
theorem dX5_putSetting_10 : decode cX5_putSetting 10 = .ok (.iconst 1, 1) := by decide +kernel
theorem dX5_putSetting_11 : decode cX5_putSetting 11 = .ok (.iload_n 1, 1) := by decide +kernel
theorem dX5_putSetting_12 : decode cX5_putSetting 12 = .ok (.ifCond .ne 9, 3) := by decide +kernel
theorem dX5_putSetting_15 : decode cX5_putSetting 15 = .ok (.sipush 999, 3) := by decide +kernel
theorem dX5_putSetting_18 : decode cX5_putSetting 18 = .ok (.goto 5, 3) := by decide +kernel
theorem dX5_putSetting_21 : decode cX5_putSetting 21 = .ok (.bipush 99, 2) := by decide +kernel
theorem dX5_putSetting_23 : decode cX5_putSetting 23 = .ok (.invokestatic 42, 3) := by decide +kernel
theorem dX5_putSetting_26 : decode cX5_putSetting 26 = .ok (.ifCond .ne 7, 3) := by decide +kernel
theorem dX5_putSetting_29 : decode cX5_putSetting 29 = .ok (.sipush (-10002), 3) := by decide +kernel
theorem dX5_putSetting_32 : decode cX5_putSetting 32 = .ok (.ireturn, 1) := by decide +kernel
theorem dX5_putSetting_33 : decode cX5_putSetting 33 = .ok (.aload_n 0, 1) := by decide +kernel
theorem dX5_putSetting_34 : decode cX5_putSetting 34 = .ok (.getfield 7, 3) := by decide +kernel
theorem dX5_putSetting_37 : decode cX5_putSetting 37 = .ok (.iconst 1, 1) := by decide +kernel
theorem dX5_putSetting_38 : decode cX5_putSetting 38 = .ok (.iload_n 1, 1) := by decide +kernel
theorem dX5_putSetting_39 : decode cX5_putSetting 39 = .ok (.iadd, 1) := by decide +kernel
theorem dX5_putSetting_40 : decode cX5_putSetting 40 = .ok (.iaload, 1) := by decide +kernel
theorem dX5_putSetting_41 : decode cX5_putSetting 41 = .ok (.istore_n 3, 1) := by decide +kernel
theorem dX5_putSetting_42 : decode cX5_putSetting 42 = .ok (.aload_n 0, 1) := by decide +kernel
theorem dX5_putSetting_43 : decode cX5_putSetting 43 = .ok (.getfield 7, 3) := by decide +kernel
theorem dX5_putSetting_46 : decode cX5_putSetting 46 = .ok (.iconst 1, 1) := by decide +kernel
theorem dX5_putSetting_47 : decode cX5_putSetting 47 = .ok (.iload_n 1, 1) := by decide +kernel
theorem dX5_putSetting_48 : decode cX5_putSetting 48 = .ok (.iadd, 1) := by decide +kernel
theorem dX5_putSetting_49 : decode cX5_putSetting 49 = .ok (.iload_n 2, 1) := by decide +kernel
theorem dX5_putSetting_50 : decode cX5_putSetting 50 = .ok (.iastore, 1) := by decide +kernel
theorem dX5_putSetting_51 : decode cX5_putSetting 51 = .ok (.iload_n 3, 1) := by decide +kernel
theorem dX5_putSetting_52 : decode cX5_putSetting 52 = .ok (.ireturn, 1) := by decide +kernel
set_option maxRecDepth 20000 in
theorem ggX5_isPastAndClear_X5_laysAsTheyAre : GoodIn wsX5_isPastAndClear wsX5_laysAsTheyAre := goodIn_r _ [6, 7, 8, 9, 5, 10, 1, 11, 12, 13, 14, 15, 16, 17, 18, 19, 20, 21, 22, 23, 24, 33, 34, 35, 36, 37, 38, 39, 40, 41, 42, 43, 44, 45, 46, 47, 48, 49, 50, 51, 52, 53] (by decide +kernel) (by decide +kernel)
set_option maxRecDepth 20000 in
theorem gX5_isPastAndClear_X5_laysAsTheyAre : GoodIn wsX5_isPastAndClear (wsV RX5 103 RX5 yX5_laysAsTheyAre wsX5_laysAsTheyAre) := goodIn_app (goodIn_of _ (by decide +kernel)) ggX5_isPastAndClear_X5_laysAsTheyAre
set_option maxRecDepth 20000 in
theorem ggX5_isPastAndClear_X5_towards : GoodIn wsX5_isPastAndClear wsX5_towards := goodIn_r _ [28, 15, 17, 16, 18, 33, 34, 35, 36, 37, 38, 39, 40, 41, 42, 43, 44, 45, 46, 47, 48, 49, 50, 51, 52, 53] (by decide +kernel) (by decide +kernel)
set_option maxRecDepth 20000 in
theorem gX5_isPastAndClear_X5_towards : GoodIn wsX5_isPastAndClear (wsV RX5 77 RX5 yX5_towards wsX5_towards) := goodIn_app (goodIn_of _ (by decide +kernel)) ggX5_isPastAndClear_X5_towards
set_option maxRecDepth 20000 in
theorem ggX5_isPastAndClear_X5_squareAway : GoodIn wsX5_isPastAndClear wsX5_squareAway := goodIn_r _ [32, 15, 16, 33, 34, 35, 36, 37, 38, 39, 40, 41, 42, 43, 44, 45, 46, 47, 48, 49, 50, 51, 52, 53] (by decide +kernel) (by decide +kernel)
set_option maxRecDepth 20000 in
theorem gX5_isPastAndClear_X5_squareAway : GoodIn wsX5_isPastAndClear (wsV RX5 87 RX5 yX5_squareAway wsX5_squareAway) := goodIn_app (goodIn_of _ (by decide +kernel)) ggX5_isPastAndClear_X5_squareAway
theorem dX5_isPastAndClear_0 : decode cX5_isPastAndClear 0 = .ok (.aload_n 0, 1) := by decide +kernel
theorem dX5_isPastAndClear_1 : decode cX5_isPastAndClear 1 = .ok (.iconst 0, 1) := by decide +kernel
theorem dX5_isPastAndClear_2 : decode cX5_isPastAndClear 2 = .ok (.iload_n 1, 1) := by decide +kernel
theorem dX5_isPastAndClear_3 : decode cX5_isPastAndClear 3 = .ok (.invokevirtual 103, 3) := by decide +kernel
theorem dX5_isPastAndClear_6 : decode cX5_isPastAndClear 6 = .ok (.aload_n 0, 1) := by decide +kernel
theorem dX5_isPastAndClear_7 : decode cX5_isPastAndClear 7 = .ok (.getfield 7, 3) := by decide +kernel
theorem dX5_isPastAndClear_10 : decode cX5_isPastAndClear 10 = .ok (.iconst 1, 1) := by decide +kernel
theorem dX5_isPastAndClear_11 : decode cX5_isPastAndClear 11 = .ok (.iaload, 1) := by decide +kernel
theorem dX5_isPastAndClear_12 : decode cX5_isPastAndClear 12 = .ok (.i2l, 1) := by decide +kernel
theorem dX5_isPastAndClear_13 : decode cX5_isPastAndClear 13 = .ok (.lstore_n 2, 1) := by decide +kernel
theorem dX5_isPastAndClear_14 : decode cX5_isPastAndClear 14 = .ok (.aload_n 0, 1) := by decide +kernel
theorem dX5_isPastAndClear_15 : decode cX5_isPastAndClear 15 = .ok (.invokevirtual 77, 3) := by decide +kernel
theorem dX5_isPastAndClear_18 : decode cX5_isPastAndClear 18 = .ok (.lconst 0, 1) := by decide +kernel
theorem dX5_isPastAndClear_19 : decode cX5_isPastAndClear 19 = .ok (.lcmp, 1) := by decide +kernel
theorem dX5_isPastAndClear_20 : decode cX5_isPastAndClear 20 = .ok (.ifCond .lt 18, 3) := by decide +kernel
theorem dX5_isPastAndClear_23 : decode cX5_isPastAndClear 23 = .ok (.aload_n 0, 1) := by decide +kernel
theorem dX5_isPastAndClear_24 : decode cX5_isPastAndClear 24 = .ok (.invokevirtual 87, 3) := by decide +kernel
theorem dX5_isPastAndClear_27 : decode cX5_isPastAndClear 27 = .ok (.lload_n 2, 1) := by decide +kernel
theorem dX5_isPastAndClear_28 : decode cX5_isPastAndClear 28 = .ok (.lload_n 2, 1) := by decide +kernel
theorem dX5_isPastAndClear_29 : decode cX5_isPastAndClear 29 = .ok (.lmul, 1) := by decide +kernel
theorem dX5_isPastAndClear_30 : decode cX5_isPastAndClear 30 = .ok (.lcmp, 1) := by decide +kernel
theorem dX5_isPastAndClear_31 : decode cX5_isPastAndClear 31 = .ok (.ifCond .lt 7, 3) := by decide +kernel
theorem dX5_isPastAndClear_34 : decode cX5_isPastAndClear 34 = .ok (.iconst 1, 1) := by decide +kernel
theorem dX5_isPastAndClear_35 : decode cX5_isPastAndClear 35 = .ok (.goto 4, 3) := by decide +kernel
theorem dX5_isPastAndClear_38 : decode cX5_isPastAndClear 38 = .ok (.iconst 0, 1) := by decide +kernel
theorem dX5_isPastAndClear_39 : decode cX5_isPastAndClear 39 = .ok (.ireturn, 1) := by decide +kernel
set_option maxRecDepth 20000 in
theorem ggX5_look_X5_shipOf : GoodIn wsX5_look wsX5_shipOf := goodIn_r _ [6, 1, 70, 71, 72, 73, 74, 75, 76, 77, 78, 79, 80, 81, 82, 83, 84, 85, 86, 87, 88, 89, 90] (by decide +kernel) (by decide +kernel)
set_option maxRecDepth 20000 in
theorem gX5_look_X5_shipOf : GoodIn wsX5_look (wsV RX5 53 RX5 yX5_shipOf wsX5_shipOf) := goodIn_app (goodIn_of _ (by decide +kernel)) ggX5_look_X5_shipOf
set_option maxRecDepth 20000 in
theorem ggX5_look_X5_tableOf : GoodIn wsX5_look wsX5_tableOf := goodIn_r _ [10, 11, 12, 13, 5, 14, 15, 16, 17, 18, 2, 3, 4, 6, 1, 19, 20, 21, 22, 23, 24, 25, 26, 27, 28, 29, 30, 31, 32, 33, 34, 35, 36, 37, 38, 39, 40, 41, 42, 43, 44, 45, 46, 47, 48, 49, 50, 51, 52, 53, 54, 55, 56, 57, 58, 59, 60, 61, 70, 71, 72, 73, 74, 75, 76, 77, 78, 79, 80, 81, 82, 83, 84, 85, 86, 87, 88, 89, 90] (by decide +kernel) (by decide +kernel)
set_option maxRecDepth 20000 in
theorem gX5_look_X5_tableOf : GoodIn wsX5_look (wsV RX5 139 RX5 yX5_tableOf wsX5_tableOf) := goodIn_app (goodIn_of _ (by decide +kernel)) ggX5_look_X5_tableOf
set_option maxRecDepth 20000 in
theorem ggX5_look_X5_isPastAndClear : GoodIn wsX5_look wsX5_isPastAndClear := goodIn_r _ [65, 1, 15, 16, 17, 5, 18, 2, 3, 4, 6, 19, 20, 21, 22, 23, 24, 25, 26, 27, 28, 29, 30, 31, 32, 45, 46, 47, 48, 49, 50, 51, 52, 70, 71, 72, 73, 74, 75, 76, 77, 78, 79, 80, 81, 82, 83, 84, 85, 86, 87, 88, 89, 90] (by decide +kernel) (by decide +kernel)
set_option maxRecDepth 20000 in
theorem gX5_look_X5_isPastAndClear : GoodIn wsX5_look (wsV RX5 142 RX5 yX5_isPastAndClear wsX5_isPastAndClear) := goodIn_app (goodIn_of _ (by decide +kernel)) ggX5_look_X5_isPastAndClear
set_option maxRecDepth 20000 in
theorem ggX5_look_X5_tells : GoodIn wsX5_look wsX5_tells := goodIn_r _ [69, 1, 70, 71, 72, 73, 74, 75, 76, 77, 78, 79, 80, 81, 82, 83, 84, 85, 86, 87, 88, 89, 90] (by decide +kernel) (by decide +kernel)
set_option maxRecDepth 20000 in
theorem gX5_look_X5_tells : GoodIn wsX5_look (wsV RX5 132 RX5 yX5_tells wsX5_tells) := goodIn_app (goodIn_of _ (by decide +kernel)) ggX5_look_X5_tells
theorem dX5_look_0 : decode cX5_look 0 = .ok (.iconst 0, 1) := by decide +kernel
theorem dX5_look_1 : decode cX5_look 1 = .ok (.istore_n 1, 1) := by decide +kernel
theorem dX5_look_2 : decode cX5_look 2 = .ok (.iconst 1, 1) := by decide +kernel
theorem dX5_look_3 : decode cX5_look 3 = .ok (.istore_n 2, 1) := by decide +kernel
theorem dX5_look_4 : decode cX5_look 4 = .ok (.iload_n 2, 1) := by decide +kernel
theorem dX5_look_5 : decode cX5_look 5 = .ok (.aload_n 0, 1) := by decide +kernel
theorem dX5_look_6 : decode cX5_look 6 = .ok (.getfield 7, 3) := by decide +kernel
theorem dX5_look_9 : decode cX5_look 9 = .ok (.iconst 0, 1) := by decide +kernel
theorem dX5_look_10 : decode cX5_look 10 = .ok (.iaload, 1) := by decide +kernel
theorem dX5_look_11 : decode cX5_look 11 = .ok (.if_icmp .ge 68, 3) := by decide +kernel
theorem dX5_look_14 : decode cX5_look 14 = .ok (.aload_n 0, 1) := by decide +kernel
theorem dX5_look_15 : decode cX5_look 15 = .ok (.iload_n 2, 1) := by decide +kernel
theorem dX5_look_16 : decode cX5_look 16 = .ok (.iconst 4, 1) := by decide +kernel
theorem dX5_look_17 : decode cX5_look 17 = .ok (.invokevirtual 53, 3) := by decide +kernel
theorem dX5_look_20 : decode cX5_look 20 = .ok (.istore_n 3, 1) := by decide +kernel
theorem dX5_look_21 : decode cX5_look 21 = .ok (.iload_n 3, 1) := by decide +kernel
theorem dX5_look_22 : decode cX5_look 22 = .ok (.ifCond .ne 12, 3) := by decide +kernel
theorem dX5_look_25 : decode cX5_look 25 = .ok (.aload_n 0, 1) := by decide +kernel
theorem dX5_look_26 : decode cX5_look 26 = .ok (.iconst 0, 1) := by decide +kernel
theorem dX5_look_27 : decode cX5_look 27 = .ok (.iload_n 2, 1) := by decide +kernel
theorem dX5_look_28 : decode cX5_look 28 = .ok (.invokevirtual 139, 3) := by decide +kernel
theorem dX5_look_31 : decode cX5_look 31 = .ok (.goto 16, 3) := by decide +kernel
theorem dX5_look_34 : decode cX5_look 34 = .ok (.aload_n 0, 1) := by decide +kernel
theorem dX5_look_35 : decode cX5_look 35 = .ok (.iload_n 2, 1) := by decide +kernel
theorem dX5_look_36 : decode cX5_look 36 = .ok (.invokevirtual 142, 3) := by decide +kernel
theorem dX5_look_39 : decode cX5_look 39 = .ok (.ifCond .eq 7, 3) := by decide +kernel
theorem dX5_look_42 : decode cX5_look 42 = .ok (.iconst 0, 1) := by decide +kernel
theorem dX5_look_43 : decode cX5_look 43 = .ok (.goto 4, 3) := by decide +kernel
theorem dX5_look_46 : decode cX5_look 46 = .ok (.iload_n 3, 1) := by decide +kernel
theorem dX5_look_47 : decode cX5_look 47 = .ok (.istore 4, 2) := by decide +kernel
theorem dX5_look_49 : decode cX5_look 49 = .ok (.aload_n 0, 1) := by decide +kernel
theorem dX5_look_50 : decode cX5_look 50 = .ok (.iload_n 2, 1) := by decide +kernel
theorem dX5_look_51 : decode cX5_look 51 = .ok (.iconst 4, 1) := by decide +kernel
theorem dX5_look_52 : decode cX5_look 52 = .ok (.iload 4, 2) := by decide +kernel
theorem dX5_look_54 : decode cX5_look 54 = .ok (.invokevirtual 132, 3) := by decide +kernel
theorem dX5_look_57 : decode cX5_look 57 = .ok (.iload_n 1, 1) := by decide +kernel
theorem dX5_look_58 : decode cX5_look 58 = .ok (.iload 4, 2) := by decide +kernel
theorem dX5_look_60 : decode cX5_look 60 = .ok (.iconst 1, 1) := by decide +kernel
theorem dX5_look_61 : decode cX5_look 61 = .ok (.if_icmp .ne 9, 3) := by decide +kernel
theorem dX5_look_64 : decode cX5_look 64 = .ok (.iconst 1, 1) := by decide +kernel
theorem dX5_look_65 : decode cX5_look 65 = .ok (.iload_n 2, 1) := by decide +kernel
theorem dX5_look_66 : decode cX5_look 66 = .ok (.ishl, 1) := by decide +kernel
theorem dX5_look_67 : decode cX5_look 67 = .ok (.goto 4, 3) := by decide +kernel
theorem dX5_look_70 : decode cX5_look 70 = .ok (.iconst 0, 1) := by decide +kernel
theorem dX5_look_71 : decode cX5_look 71 = .ok (.ior, 1) := by decide +kernel
theorem dX5_look_72 : decode cX5_look 72 = .ok (.istore_n 1, 1) := by decide +kernel
theorem dX5_look_73 : decode cX5_look 73 = .ok (.iinc 2 1, 3) := by decide +kernel
theorem dX5_look_76 : decode cX5_look 76 = .ok (.goto (-72), 3) := by decide +kernel
theorem dX5_look_79 : decode cX5_look 79 = .ok (.iload_n 1, 1) := by decide +kernel
theorem dX5_look_80 : decode cX5_look 80 = .ok (.ireturn, 1) := by decide +kernel
set_option maxRecDepth 20000 in
theorem ggX5_eastSpeed_X5_shipOf : GoodIn wsX5_eastSpeed wsX5_shipOf := goodIn_r _ [5, 6, 13, 14, 15, 16, 17, 18, 19, 20, 21, 22, 23, 24, 25, 26, 27, 28, 29, 30, 31, 32, 33] (by decide +kernel) (by decide +kernel)
set_option maxRecDepth 20000 in
theorem gX5_eastSpeed_X5_shipOf : GoodIn wsX5_eastSpeed (wsV RX5 53 RX5 yX5_shipOf wsX5_shipOf) := goodIn_app (goodIn_of _ (by decide +kernel)) ggX5_eastSpeed_X5_shipOf
set_option maxRecDepth 20000 in
theorem ggX5_eastSpeed_X5_eastOf : GoodIn wsX5_eastSpeed wsX5_eastOf := goodIn_r _ [9, 10, 11, 4, 12] (by decide +kernel) (by decide +kernel)
set_option maxRecDepth 20000 in
theorem gX5_eastSpeed_X5_eastOf : GoodIn wsX5_eastSpeed (va_wsS RX5 64 yX5_eastOf wsX5_eastOf) := goodIn_app (goodIn_of _ (by decide +kernel)) ggX5_eastSpeed_X5_eastOf
theorem dX5_eastSpeed_0 : decode cX5_eastSpeed 0 = .ok (.aload_n 0, 1) := by decide +kernel
theorem dX5_eastSpeed_1 : decode cX5_eastSpeed 1 = .ok (.iload_n 1, 1) := by decide +kernel
theorem dX5_eastSpeed_2 : decode cX5_eastSpeed 2 = .ok (.iconst 3, 1) := by decide +kernel
theorem dX5_eastSpeed_3 : decode cX5_eastSpeed 3 = .ok (.invokevirtual 53, 3) := by decide +kernel
theorem dX5_eastSpeed_6 : decode cX5_eastSpeed 6 = .ok (.aload_n 0, 1) := by decide +kernel
theorem dX5_eastSpeed_7 : decode cX5_eastSpeed 7 = .ok (.iload_n 1, 1) := by decide +kernel
theorem dX5_eastSpeed_8 : decode cX5_eastSpeed 8 = .ok (.iconst 2, 1) := by decide +kernel
theorem dX5_eastSpeed_9 : decode cX5_eastSpeed 9 = .ok (.invokevirtual 53, 3) := by decide +kernel
theorem dX5_eastSpeed_12 : decode cX5_eastSpeed 12 = .ok (.invokestatic 64, 3) := by decide +kernel
theorem dX5_eastSpeed_15 : decode cX5_eastSpeed 15 = .ok (.imul, 1) := by decide +kernel
theorem dX5_eastSpeed_16 : decode cX5_eastSpeed 16 = .ok (.ireturn, 1) := by decide +kernel
set_option maxRecDepth 20000 in
theorem ggX5_northSpeed_X5_shipOf : GoodIn wsX5_northSpeed wsX5_shipOf := goodIn_r _ [5, 6, 10, 11, 12, 13, 14, 15, 16, 17, 18, 19, 20, 21, 22, 23, 24, 25, 26, 27, 28, 29, 30] (by decide +kernel) (by decide +kernel)
set_option maxRecDepth 20000 in
theorem gX5_northSpeed_X5_shipOf : GoodIn wsX5_northSpeed (wsV RX5 53 RX5 yX5_shipOf wsX5_shipOf) := goodIn_app (goodIn_of _ (by decide +kernel)) ggX5_northSpeed_X5_shipOf
set_option maxRecDepth 20000 in
theorem ggX5_northSpeed_X5_northOf : GoodIn wsX5_northSpeed wsX5_northOf := goodIn_r _ [9] (by decide +kernel) (by decide +kernel)
set_option maxRecDepth 20000 in
theorem gX5_northSpeed_X5_northOf : GoodIn wsX5_northSpeed (va_wsS RX5 50 yX5_northOf wsX5_northOf) := goodIn_app (goodIn_of _ (by decide +kernel)) ggX5_northSpeed_X5_northOf
theorem dX5_northSpeed_0 : decode cX5_northSpeed 0 = .ok (.aload_n 0, 1) := by decide +kernel
theorem dX5_northSpeed_1 : decode cX5_northSpeed 1 = .ok (.iload_n 1, 1) := by decide +kernel
theorem dX5_northSpeed_2 : decode cX5_northSpeed 2 = .ok (.iconst 3, 1) := by decide +kernel
theorem dX5_northSpeed_3 : decode cX5_northSpeed 3 = .ok (.invokevirtual 53, 3) := by decide +kernel
theorem dX5_northSpeed_6 : decode cX5_northSpeed 6 = .ok (.aload_n 0, 1) := by decide +kernel
theorem dX5_northSpeed_7 : decode cX5_northSpeed 7 = .ok (.iload_n 1, 1) := by decide +kernel
theorem dX5_northSpeed_8 : decode cX5_northSpeed 8 = .ok (.iconst 2, 1) := by decide +kernel
end
section
theorem dX5_northSpeed_9 : decode cX5_northSpeed 9 = .ok (.invokevirtual 53, 3) := by decide +kernel
theorem dX5_northSpeed_12 : decode cX5_northSpeed 12 = .ok (.invokestatic 50, 3) := by decide +kernel
theorem dX5_northSpeed_15 : decode cX5_northSpeed 15 = .ok (.imul, 1) := by decide +kernel
theorem dX5_northSpeed_16 : decode cX5_northSpeed 16 = .ok (.ireturn, 1) := by decide +kernel
set_option maxRecDepth 20000 in
theorem ggX5_putSteps_X5_in : GoodIn wsX5_putSteps wsX5_in := goodIn_r _ [5] (by decide +kernel) (by decide +kernel)
set_option maxRecDepth 20000 in
theorem gX5_putSteps_X5_in : GoodIn wsX5_putSteps (va_wsS RX5 42 yX5_in wsX5_in) := goodIn_app (goodIn_of _ (by decide +kernel)) ggX5_putSteps_X5_in
set_option maxRecDepth 20000 in
theorem ggX5_putSteps_X5_shipOf : GoodIn wsX5_putSteps wsX5_shipOf := goodIn_r _ [9, 1, 88, 89, 90, 91, 92, 93, 94, 95, 96, 97, 98, 99, 100, 101, 102, 103, 104, 105, 106, 107, 108] (by decide +kernel) (by decide +kernel)
set_option maxRecDepth 20000 in
theorem gX5_putSteps_X5_shipOf : GoodIn wsX5_putSteps (wsV RX5 53 RX5 yX5_shipOf wsX5_shipOf) := goodIn_app (goodIn_of _ (by decide +kernel)) ggX5_putSteps_X5_shipOf
set_option maxRecDepth 20000 in
theorem ggX5_putSteps_X5_eastSpeed : GoodIn wsX5_putSteps wsX5_eastSpeed := goodIn_r _ [13, 6, 7, 8, 4, 9, 1, 14, 15, 16, 17, 18, 19, 88, 89, 90, 91, 92, 93, 94, 95, 96, 97, 98, 99, 100, 101, 102, 103, 104, 105, 106, 107, 108] (by decide +kernel) (by decide +kernel)
set_option maxRecDepth 20000 in
theorem gX5_putSteps_X5_eastSpeed : GoodIn wsX5_putSteps (wsV RX5 145 RX5 yX5_eastSpeed wsX5_eastSpeed) := goodIn_app (goodIn_of _ (by decide +kernel)) ggX5_putSteps_X5_eastSpeed
set_option maxRecDepth 20000 in
theorem ggX5_putSteps_X5_northSpeed : GoodIn wsX5_putSteps wsX5_northSpeed := goodIn_r _ [23, 6, 7, 8, 4, 9, 1, 17, 18, 19, 88, 89, 90, 91, 92, 93, 94, 95, 96, 97, 98, 99, 100, 101, 102, 103, 104, 105, 106, 107, 108] (by decide +kernel) (by decide +kernel)
set_option maxRecDepth 20000 in
theorem gX5_putSteps_X5_northSpeed : GoodIn wsX5_putSteps (wsV RX5 148 RX5 yX5_northSpeed wsX5_northSpeed) := goodIn_app (goodIn_of _ (by decide +kernel)) ggX5_putSteps_X5_northSpeed
set_option maxRecDepth 20000 in
theorem ggX5_putSteps_X5_isPlace : GoodIn wsX5_putSteps wsX5_isPlace := goodIn_r _ [26, 2, 3, 4, 5] (by decide +kernel) (by decide +kernel)
set_option maxRecDepth 20000 in
theorem gX5_putSteps_X5_isPlace : GoodIn wsX5_putSteps (va_wsS RX5 122 yX5_isPlace wsX5_isPlace) := goodIn_app (goodIn_of _ (by decide +kernel)) ggX5_putSteps_X5_isPlace
set_option maxRecDepth 20000 in
theorem ggX5_putSteps_X5_tells : GoodIn wsX5_putSteps wsX5_tells := goodIn_r _ [30, 1, 88, 89, 90, 91, 92, 93, 94, 95, 96, 97, 98, 99, 100, 101, 102, 103, 104, 105, 106, 107, 108] (by decide +kernel) (by decide +kernel)
set_option maxRecDepth 20000 in
theorem gX5_putSteps_X5_tells : GoodIn wsX5_putSteps (wsV RX5 132 RX5 yX5_tells wsX5_tells) := goodIn_app (goodIn_of _ (by decide +kernel)) ggX5_putSteps_X5_tells
set_option maxRecDepth 20000 in
theorem ggX5_putSteps_X5_look : GoodIn wsX5_putSteps wsX5_look := goodIn_r _ [34, 1, 6, 7, 8, 4, 9, 35, 36, 37, 38, 39, 40, 41, 42, 43, 44, 45, 46, 47, 48, 49, 50, 51, 52, 53, 54, 14, 15, 16, 17, 18, 19, 55, 56, 57, 58, 59, 60, 61, 62, 63, 64, 65, 66, 67, 68, 69, 70, 71, 72, 73, 74, 75, 76, 77, 78, 79, 80, 81, 82, 83, 84, 85, 86, 87, 27, 28, 29, 30, 88, 89, 90, 91, 92, 93, 94, 95, 96, 97, 98, 99, 100, 101, 102, 103, 104, 105, 106, 107, 108] (by decide +kernel) (by decide +kernel)
set_option maxRecDepth 20000 in
theorem gX5_putSteps_X5_look : GoodIn wsX5_putSteps (wsV RX5 151 RX5 yX5_look wsX5_look) := goodIn_app (goodIn_of _ (by decide +kernel)) ggX5_putSteps_X5_look
theorem dX5_putSteps_0 : decode cX5_putSteps 0 = .ok (.iload_n 1, 1) := by decide +kernel
theorem dX5_putSteps_1 : decode cX5_putSteps 1 = .ok (.iconst 1, 1) := by decide +kernel
theorem dX5_putSteps_2 : decode cX5_putSteps 2 = .ok (.bipush 60, 2) := by decide +kernel
theorem dX5_putSteps_4 : decode cX5_putSteps 4 = .ok (.invokestatic 42, 3) := by decide +kernel
theorem dX5_putSteps_7 : decode cX5_putSteps 7 = .ok (.ifCond .ne 7, 3) := by decide +kernel
theorem dX5_putSteps_10 : decode cX5_putSteps 10 = .ok (.sipush (-10002), 3) := by decide +kernel
theorem dX5_putSteps_13 : decode cX5_putSteps 13 = .ok (.ireturn, 1) := by decide +kernel
theorem dX5_putSteps_14 : decode cX5_putSteps 14 = .ok (.iconst 0, 1) := by decide +kernel
theorem dX5_putSteps_15 : decode cX5_putSteps 15 = .ok (.istore_n 2, 1) := by decide +kernel
theorem dX5_putSteps_16 : decode cX5_putSteps 16 = .ok (.iload_n 2, 1) := by decide +kernel
theorem dX5_putSteps_17 : decode cX5_putSteps 17 = .ok (.aload_n 0, 1) := by decide +kernel
theorem dX5_putSteps_18 : decode cX5_putSteps 18 = .ok (.getfield 7, 3) := by decide +kernel
theorem dX5_putSteps_21 : decode cX5_putSteps 21 = .ok (.iconst 0, 1) := by decide +kernel
theorem dX5_putSteps_22 : decode cX5_putSteps 22 = .ok (.iaload, 1) := by decide +kernel
theorem dX5_putSteps_23 : decode cX5_putSteps 23 = .ok (.if_icmp .ge 47, 3) := by decide +kernel
theorem dX5_putSteps_26 : decode cX5_putSteps 26 = .ok (.aload_n 0, 1) := by decide +kernel
theorem dX5_putSteps_27 : decode cX5_putSteps 27 = .ok (.iload_n 2, 1) := by decide +kernel
theorem dX5_putSteps_28 : decode cX5_putSteps 28 = .ok (.iconst 0, 1) := by decide +kernel
theorem dX5_putSteps_29 : decode cX5_putSteps 29 = .ok (.invokevirtual 53, 3) := by decide +kernel
theorem dX5_putSteps_32 : decode cX5_putSteps 32 = .ok (.iload_n 1, 1) := by decide +kernel
theorem dX5_putSteps_33 : decode cX5_putSteps 33 = .ok (.aload_n 0, 1) := by decide +kernel
theorem dX5_putSteps_34 : decode cX5_putSteps 34 = .ok (.iload_n 2, 1) := by decide +kernel
theorem dX5_putSteps_35 : decode cX5_putSteps 35 = .ok (.invokevirtual 145, 3) := by decide +kernel
theorem dX5_putSteps_38 : decode cX5_putSteps 38 = .ok (.imul, 1) := by decide +kernel
theorem dX5_putSteps_39 : decode cX5_putSteps 39 = .ok (.iadd, 1) := by decide +kernel
theorem dX5_putSteps_40 : decode cX5_putSteps 40 = .ok (.aload_n 0, 1) := by decide +kernel
theorem dX5_putSteps_41 : decode cX5_putSteps 41 = .ok (.iload_n 2, 1) := by decide +kernel
theorem dX5_putSteps_42 : decode cX5_putSteps 42 = .ok (.iconst 1, 1) := by decide +kernel
theorem dX5_putSteps_43 : decode cX5_putSteps 43 = .ok (.invokevirtual 53, 3) := by decide +kernel
theorem dX5_putSteps_46 : decode cX5_putSteps 46 = .ok (.iload_n 1, 1) := by decide +kernel
theorem dX5_putSteps_47 : decode cX5_putSteps 47 = .ok (.aload_n 0, 1) := by decide +kernel
theorem dX5_putSteps_48 : decode cX5_putSteps 48 = .ok (.iload_n 2, 1) := by decide +kernel
theorem dX5_putSteps_49 : decode cX5_putSteps 49 = .ok (.invokevirtual 148, 3) := by decide +kernel
theorem dX5_putSteps_52 : decode cX5_putSteps 52 = .ok (.imul, 1) := by decide +kernel
theorem dX5_putSteps_53 : decode cX5_putSteps 53 = .ok (.iadd, 1) := by decide +kernel
theorem dX5_putSteps_54 : decode cX5_putSteps 54 = .ok (.invokestatic 122, 3) := by decide +kernel
theorem dX5_putSteps_57 : decode cX5_putSteps 57 = .ok (.ifCond .ne 7, 3) := by decide +kernel
theorem dX5_putSteps_60 : decode cX5_putSteps 60 = .ok (.sipush (-10003), 3) := by decide +kernel
theorem dX5_putSteps_63 : decode cX5_putSteps 63 = .ok (.ireturn, 1) := by decide +kernel
theorem dX5_putSteps_64 : decode cX5_putSteps 64 = .ok (.iinc 2 1, 3) := by decide +kernel
theorem dX5_putSteps_67 : decode cX5_putSteps 67 = .ok (.goto (-51), 3) := by decide +kernel
theorem dX5_putSteps_70 : decode cX5_putSteps 70 = .ok (.iconst 0, 1) := by decide +kernel
theorem dX5_putSteps_71 : decode cX5_putSteps 71 = .ok (.istore_n 2, 1) := by decide +kernel
theorem dX5_putSteps_72 : decode cX5_putSteps 72 = .ok (.iconst 0, 1) := by decide +kernel
theorem dX5_putSteps_73 : decode cX5_putSteps 73 = .ok (.istore_n 3, 1) := by decide +kernel
theorem dX5_putSteps_74 : decode cX5_putSteps 74 = .ok (.iload_n 3, 1) := by decide +kernel
theorem dX5_putSteps_75 : decode cX5_putSteps 75 = .ok (.iload_n 1, 1) := by decide +kernel
theorem dX5_putSteps_76 : decode cX5_putSteps 76 = .ok (.if_icmp .ge 76, 3) := by decide +kernel
theorem dX5_putSteps_79 : decode cX5_putSteps 79 = .ok (.iconst 0, 1) := by decide +kernel
theorem dX5_putSteps_80 : decode cX5_putSteps 80 = .ok (.istore 4, 2) := by decide +kernel
theorem dX5_putSteps_82 : decode cX5_putSteps 82 = .ok (.iload 4, 2) := by decide +kernel
theorem dX5_putSteps_84 : decode cX5_putSteps 84 = .ok (.aload_n 0, 1) := by decide +kernel
theorem dX5_putSteps_85 : decode cX5_putSteps 85 = .ok (.getfield 7, 3) := by decide +kernel
theorem dX5_putSteps_88 : decode cX5_putSteps 88 = .ok (.iconst 0, 1) := by decide +kernel
theorem dX5_putSteps_89 : decode cX5_putSteps 89 = .ok (.iaload, 1) := by decide +kernel
theorem dX5_putSteps_90 : decode cX5_putSteps 90 = .ok (.if_icmp .ge 51, 3) := by decide +kernel
theorem dX5_putSteps_93 : decode cX5_putSteps 93 = .ok (.aload_n 0, 1) := by decide +kernel
theorem dX5_putSteps_94 : decode cX5_putSteps 94 = .ok (.iload 4, 2) := by decide +kernel
theorem dX5_putSteps_96 : decode cX5_putSteps 96 = .ok (.iconst 0, 1) := by decide +kernel
theorem dX5_putSteps_97 : decode cX5_putSteps 97 = .ok (.aload_n 0, 1) := by decide +kernel
theorem dX5_putSteps_98 : decode cX5_putSteps 98 = .ok (.iload 4, 2) := by decide +kernel
theorem dX5_putSteps_100 : decode cX5_putSteps 100 = .ok (.iconst 0, 1) := by decide +kernel
theorem dX5_putSteps_101 : decode cX5_putSteps 101 = .ok (.invokevirtual 53, 3) := by decide +kernel
theorem dX5_putSteps_104 : decode cX5_putSteps 104 = .ok (.aload_n 0, 1) := by decide +kernel
theorem dX5_putSteps_105 : decode cX5_putSteps 105 = .ok (.iload 4, 2) := by decide +kernel
theorem dX5_putSteps_107 : decode cX5_putSteps 107 = .ok (.invokevirtual 145, 3) := by decide +kernel
theorem dX5_putSteps_110 : decode cX5_putSteps 110 = .ok (.iadd, 1) := by decide +kernel
theorem dX5_putSteps_111 : decode cX5_putSteps 111 = .ok (.invokevirtual 132, 3) := by decide +kernel
theorem dX5_putSteps_114 : decode cX5_putSteps 114 = .ok (.aload_n 0, 1) := by decide +kernel
theorem dX5_putSteps_115 : decode cX5_putSteps 115 = .ok (.iload 4, 2) := by decide +kernel
theorem dX5_putSteps_117 : decode cX5_putSteps 117 = .ok (.iconst 1, 1) := by decide +kernel
theorem dX5_putSteps_118 : decode cX5_putSteps 118 = .ok (.aload_n 0, 1) := by decide +kernel
theorem dX5_putSteps_119 : decode cX5_putSteps 119 = .ok (.iload 4, 2) := by decide +kernel
theorem dX5_putSteps_121 : decode cX5_putSteps 121 = .ok (.iconst 1, 1) := by decide +kernel
theorem dX5_putSteps_122 : decode cX5_putSteps 122 = .ok (.invokevirtual 53, 3) := by decide +kernel
theorem dX5_putSteps_125 : decode cX5_putSteps 125 = .ok (.aload_n 0, 1) := by decide +kernel
theorem dX5_putSteps_126 : decode cX5_putSteps 126 = .ok (.iload 4, 2) := by decide +kernel
theorem dX5_putSteps_128 : decode cX5_putSteps 128 = .ok (.invokevirtual 148, 3) := by decide +kernel
theorem dX5_putSteps_131 : decode cX5_putSteps 131 = .ok (.iadd, 1) := by decide +kernel
theorem dX5_putSteps_132 : decode cX5_putSteps 132 = .ok (.invokevirtual 132, 3) := by decide +kernel
theorem dX5_putSteps_135 : decode cX5_putSteps 135 = .ok (.iinc 4 1, 3) := by decide +kernel
theorem dX5_putSteps_138 : decode cX5_putSteps 138 = .ok (.goto (-56), 3) := by decide +kernel
theorem dX5_putSteps_141 : decode cX5_putSteps 141 = .ok (.aload_n 0, 1) := by decide +kernel
theorem dX5_putSteps_142 : decode cX5_putSteps 142 = .ok (.invokevirtual 151, 3) := by decide +kernel
theorem dX5_putSteps_145 : decode cX5_putSteps 145 = .ok (.istore_n 2, 1) := by decide +kernel
theorem dX5_putSteps_146 : decode cX5_putSteps 146 = .ok (.iinc 3 1, 3) := by decide +kernel
theorem dX5_putSteps_149 : decode cX5_putSteps 149 = .ok (.goto (-75), 3) := by decide +kernel
theorem dX5_putSteps_152 : decode cX5_putSteps 152 = .ok (.aload_n 0, 1) := by decide +kernel
theorem dX5_putSteps_153 : decode cX5_putSteps 153 = .ok (.getfield 7, 3) := by decide +kernel
theorem dX5_putSteps_156 : decode cX5_putSteps 156 = .ok (.iconst 3, 1) := by decide +kernel
theorem dX5_putSteps_157 : decode cX5_putSteps 157 = .ok (.dup2, 1) := by decide +kernel
theorem dX5_putSteps_158 : decode cX5_putSteps 158 = .ok (.iaload, 1) := by decide +kernel
theorem dX5_putSteps_159 : decode cX5_putSteps 159 = .ok (.iload_n 1, 1) := by decide +kernel
theorem dX5_putSteps_160 : decode cX5_putSteps 160 = .ok (.iadd, 1) := by decide +kernel
theorem dX5_putSteps_161 : decode cX5_putSteps 161 = .ok (.iastore, 1) := by decide +kernel
theorem dX5_putSteps_162 : decode cX5_putSteps 162 = .ok (.iload_n 2, 1) := by decide +kernel
theorem dX5_putSteps_163 : decode cX5_putSteps 163 = .ok (.ireturn, 1) := by decide +kernel
set_option maxRecDepth 20000 in
theorem ggX5_isClear_X5_lays : GoodIn wsX5_isClear wsX5_lays := goodIn_r _ [6, 7, 8, 9, 10, 11, 12, 13, 5, 14, 1, 15, 16, 17, 18, 19, 20, 44, 45, 46, 47, 48, 49, 50, 51, 52, 53, 54, 55, 56, 57, 58, 59, 60, 61, 62, 63, 64] (by decide +kernel) (by decide +kernel)
set_option maxRecDepth 20000 in
theorem gX5_isClear_X5_lays : GoodIn wsX5_isClear (wsV RX5 73 RX5 yX5_lays wsX5_lays) := goodIn_app (goodIn_of _ (by decide +kernel)) ggX5_isClear_X5_lays
set_option maxRecDepth 20000 in
theorem ggX5_isClear_X5_isRisk : GoodIn wsX5_isClear wsX5_isRisk := goodIn_r _ [24, 1, 25, 26, 27, 28, 29, 30, 31, 5, 32, 9, 10, 7, 8, 33, 34, 35, 36, 37, 38, 39, 40, 41, 42, 43, 44, 45, 46, 47, 48, 49, 50, 51, 52, 53, 54, 55, 56, 57, 58, 59, 60, 61, 62, 63, 64] (by decide +kernel) (by decide +kernel)
set_option maxRecDepth 20000 in
theorem gX5_isClear_X5_isRisk : GoodIn wsX5_isClear (wsV RX5 107 RX5 yX5_isRisk wsX5_isRisk) := goodIn_app (goodIn_of _ (by decide +kernel)) ggX5_isClear_X5_isRisk
theorem dX5_isClear_0 : decode cX5_isClear 0 = .ok (.iconst 1, 1) := by decide +kernel
theorem dX5_isClear_1 : decode cX5_isClear 1 = .ok (.istore 4, 2) := by decide +kernel
theorem dX5_isClear_3 : decode cX5_isClear 3 = .ok (.iconst 0, 1) := by decide +kernel
theorem dX5_isClear_4 : decode cX5_isClear 4 = .ok (.istore 5, 2) := by decide +kernel
theorem dX5_isClear_6 : decode cX5_isClear 6 = .ok (.iload 5, 2) := by decide +kernel
theorem dX5_isClear_8 : decode cX5_isClear 8 = .ok (.aload_n 0, 1) := by decide +kernel
theorem dX5_isClear_9 : decode cX5_isClear 9 = .ok (.getfield 7, 3) := by decide +kernel
theorem dX5_isClear_12 : decode cX5_isClear 12 = .ok (.iconst 0, 1) := by decide +kernel
theorem dX5_isClear_13 : decode cX5_isClear 13 = .ok (.iaload, 1) := by decide +kernel
theorem dX5_isClear_14 : decode cX5_isClear 14 = .ok (.if_icmp .ge 43, 3) := by decide +kernel
theorem dX5_isClear_17 : decode cX5_isClear 17 = .ok (.iload 5, 2) := by decide +kernel
theorem dX5_isClear_19 : decode cX5_isClear 19 = .ok (.iload_n 1, 1) := by decide +kernel
theorem dX5_isClear_20 : decode cX5_isClear 20 = .ok (.if_icmp .eq 31, 3) := by decide +kernel
theorem dX5_isClear_23 : decode cX5_isClear 23 = .ok (.aload_n 0, 1) := by decide +kernel
theorem dX5_isClear_24 : decode cX5_isClear 24 = .ok (.iload_n 1, 1) := by decide +kernel
theorem dX5_isClear_25 : decode cX5_isClear 25 = .ok (.iload 5, 2) := by decide +kernel
theorem dX5_isClear_27 : decode cX5_isClear 27 = .ok (.iload_n 2, 1) := by decide +kernel
theorem dX5_isClear_28 : decode cX5_isClear 28 = .ok (.iload_n 3, 1) := by decide +kernel
theorem dX5_isClear_29 : decode cX5_isClear 29 = .ok (.invokevirtual 73, 3) := by decide +kernel
theorem dX5_isClear_32 : decode cX5_isClear 32 = .ok (.aload_n 0, 1) := by decide +kernel
theorem dX5_isClear_33 : decode cX5_isClear 33 = .ok (.invokevirtual 107, 3) := by decide +kernel
theorem dX5_isClear_36 : decode cX5_isClear 36 = .ok (.ifCond .ne 12, 3) := by decide +kernel
theorem dX5_isClear_39 : decode cX5_isClear 39 = .ok (.iload 4, 2) := by decide +kernel
theorem dX5_isClear_41 : decode cX5_isClear 41 = .ok (.ifCond .eq 7, 3) := by decide +kernel
theorem dX5_isClear_44 : decode cX5_isClear 44 = .ok (.iconst 1, 1) := by decide +kernel
theorem dX5_isClear_45 : decode cX5_isClear 45 = .ok (.goto 4, 3) := by decide +kernel
theorem dX5_isClear_48 : decode cX5_isClear 48 = .ok (.iconst 0, 1) := by decide +kernel
theorem dX5_isClear_49 : decode cX5_isClear 49 = .ok (.istore 4, 2) := by decide +kernel
theorem dX5_isClear_51 : decode cX5_isClear 51 = .ok (.iinc 5 1, 3) := by decide +kernel
theorem dX5_isClear_54 : decode cX5_isClear 54 = .ok (.goto (-48), 3) := by decide +kernel
theorem dX5_isClear_57 : decode cX5_isClear 57 = .ok (.iload 4, 2) := by decide +kernel
theorem dX5_isClear_59 : decode cX5_isClear 59 = .ok (.ireturn, 1) := by decide +kernel
set_option maxRecDepth 20000 in
theorem ggX5_mustGiveWay_X5_shipOf : GoodIn wsX5_mustGiveWay wsX5_shipOf := goodIn_r _ [6, 1, 62, 63, 64, 65, 66, 67, 68, 69, 70, 71, 72, 73, 74, 75, 76, 77, 78, 79, 80, 81, 82] (by decide +kernel) (by decide +kernel)
set_option maxRecDepth 20000 in
theorem gX5_mustGiveWay_X5_shipOf : GoodIn wsX5_mustGiveWay (wsV RX5 53 RX5 yX5_shipOf wsX5_shipOf) := goodIn_app (goodIn_of _ (by decide +kernel)) ggX5_mustGiveWay_X5_shipOf
set_option maxRecDepth 20000 in
theorem ggX5_mustGiveWay_X5_tableOf : GoodIn wsX5_mustGiveWay wsX5_tableOf := goodIn_r _ [10, 11, 12, 13, 5, 14, 15, 16, 17, 18, 2, 3, 4, 6, 1, 19, 20, 21, 22, 23, 24, 25, 26, 27, 28, 29, 30, 31, 32, 33, 34, 35, 36, 37, 38, 39, 40, 41, 42, 43, 44, 45, 46, 47, 48, 49, 50, 51, 52, 53, 54, 55, 56, 57, 58, 59, 60, 61, 62, 63, 64, 65, 66, 67, 68, 69, 70, 71, 72, 73, 74, 75, 76, 77, 78, 79, 80, 81, 82] (by decide +kernel) (by decide +kernel)
set_option maxRecDepth 20000 in
theorem gX5_mustGiveWay_X5_tableOf : GoodIn wsX5_mustGiveWay (wsV RX5 139 RX5 yX5_tableOf wsX5_tableOf) := goodIn_app (goodIn_of _ (by decide +kernel)) ggX5_mustGiveWay_X5_tableOf
theorem dX5_mustGiveWay_0 : decode cX5_mustGiveWay 0 = .ok (.iconst 0, 1) := by decide +kernel
theorem dX5_mustGiveWay_1 : decode cX5_mustGiveWay 1 = .ok (.istore_n 2, 1) := by decide +kernel
theorem dX5_mustGiveWay_2 : decode cX5_mustGiveWay 2 = .ok (.iconst 0, 1) := by decide +kernel
theorem dX5_mustGiveWay_3 : decode cX5_mustGiveWay 3 = .ok (.istore_n 3, 1) := by decide +kernel
theorem dX5_mustGiveWay_4 : decode cX5_mustGiveWay 4 = .ok (.iload_n 3, 1) := by decide +kernel
theorem dX5_mustGiveWay_5 : decode cX5_mustGiveWay 5 = .ok (.aload_n 0, 1) := by decide +kernel
theorem dX5_mustGiveWay_6 : decode cX5_mustGiveWay 6 = .ok (.getfield 7, 3) := by decide +kernel
theorem dX5_mustGiveWay_9 : decode cX5_mustGiveWay 9 = .ok (.iconst 0, 1) := by decide +kernel
theorem dX5_mustGiveWay_10 : decode cX5_mustGiveWay 10 = .ok (.iaload, 1) := by decide +kernel
theorem dX5_mustGiveWay_11 : decode cX5_mustGiveWay 11 = .ok (.if_icmp .ge 47, 3) := by decide +kernel
theorem dX5_mustGiveWay_14 : decode cX5_mustGiveWay 14 = .ok (.iload_n 3, 1) := by decide +kernel
theorem dX5_mustGiveWay_15 : decode cX5_mustGiveWay 15 = .ok (.iload_n 1, 1) := by decide +kernel
theorem dX5_mustGiveWay_16 : decode cX5_mustGiveWay 16 = .ok (.if_icmp .eq 36, 3) := by decide +kernel
theorem dX5_mustGiveWay_19 : decode cX5_mustGiveWay 19 = .ok (.iload_n 2, 1) := by decide +kernel
theorem dX5_mustGiveWay_20 : decode cX5_mustGiveWay 20 = .ok (.ifCond .ne 26, 3) := by decide +kernel
theorem dX5_mustGiveWay_23 : decode cX5_mustGiveWay 23 = .ok (.iload_n 1, 1) := by decide +kernel
theorem dX5_mustGiveWay_24 : decode cX5_mustGiveWay 24 = .ok (.ifCond .ne 12, 3) := by decide +kernel
theorem dX5_mustGiveWay_27 : decode cX5_mustGiveWay 27 = .ok (.aload_n 0, 1) := by decide +kernel
theorem dX5_mustGiveWay_28 : decode cX5_mustGiveWay 28 = .ok (.iload_n 3, 1) := by decide +kernel
theorem dX5_mustGiveWay_29 : decode cX5_mustGiveWay 29 = .ok (.iconst 4, 1) := by decide +kernel
theorem dX5_mustGiveWay_30 : decode cX5_mustGiveWay 30 = .ok (.invokevirtual 53, 3) := by decide +kernel
theorem dX5_mustGiveWay_33 : decode cX5_mustGiveWay 33 = .ok (.goto 9, 3) := by decide +kernel
theorem dX5_mustGiveWay_36 : decode cX5_mustGiveWay 36 = .ok (.aload_n 0, 1) := by decide +kernel
theorem dX5_mustGiveWay_37 : decode cX5_mustGiveWay 37 = .ok (.iload_n 1, 1) := by decide +kernel
theorem dX5_mustGiveWay_38 : decode cX5_mustGiveWay 38 = .ok (.iload_n 3, 1) := by decide +kernel
theorem dX5_mustGiveWay_39 : decode cX5_mustGiveWay 39 = .ok (.invokevirtual 139, 3) := by decide +kernel
theorem dX5_mustGiveWay_42 : decode cX5_mustGiveWay 42 = .ok (.iconst 1, 1) := by decide +kernel
theorem dX5_mustGiveWay_43 : decode cX5_mustGiveWay 43 = .ok (.if_icmp .ne 7, 3) := by decide +kernel
theorem dX5_mustGiveWay_46 : decode cX5_mustGiveWay 46 = .ok (.iconst 1, 1) := by decide +kernel
theorem dX5_mustGiveWay_47 : decode cX5_mustGiveWay 47 = .ok (.goto 4, 3) := by decide +kernel
theorem dX5_mustGiveWay_50 : decode cX5_mustGiveWay 50 = .ok (.iconst 0, 1) := by decide +kernel
theorem dX5_mustGiveWay_51 : decode cX5_mustGiveWay 51 = .ok (.istore_n 2, 1) := by decide +kernel
theorem dX5_mustGiveWay_52 : decode cX5_mustGiveWay 52 = .ok (.iinc 3 1, 3) := by decide +kernel
theorem dX5_mustGiveWay_55 : decode cX5_mustGiveWay 55 = .ok (.goto (-51), 3) := by decide +kernel
theorem dX5_mustGiveWay_58 : decode cX5_mustGiveWay 58 = .ok (.iload_n 2, 1) := by decide +kernel
theorem dX5_mustGiveWay_59 : decode cX5_mustGiveWay 59 = .ok (.ireturn, 1) := by decide +kernel
set_option maxRecDepth 20000 in
theorem ggX5_adviceFor_X5_shipOf : GoodIn wsX5_adviceFor wsX5_shipOf := goodIn_r _ [5, 6, 70, 71, 72, 73, 74, 75, 76, 77, 78, 79, 80, 81, 82, 83, 84, 85, 86, 87, 88, 89, 90] (by decide +kernel) (by decide +kernel)
set_option maxRecDepth 20000 in
theorem gX5_adviceFor_X5_shipOf : GoodIn wsX5_adviceFor (wsV RX5 53 RX5 yX5_shipOf wsX5_shipOf) := goodIn_app (goodIn_of _ (by decide +kernel)) ggX5_adviceFor_X5_shipOf
set_option maxRecDepth 20000 in
theorem ggX5_adviceFor_X5_mustGiveWay : GoodIn wsX5_adviceFor wsX5_mustGiveWay := goodIn_r _ [10, 6, 1, 2, 3, 4, 5, 11, 12, 13, 14, 15, 16, 17, 18, 19, 20, 21, 22, 23, 24, 25, 26, 27, 28, 29, 30, 31, 32, 33, 34, 35, 36, 37, 38, 39, 40, 41, 42, 43, 44, 45, 46, 47, 48, 49, 50, 51, 52, 53, 54, 55, 56, 57, 58, 59, 60, 61, 62, 63, 64, 65, 70, 71, 72, 73, 74, 75, 76, 77, 78, 79, 80, 81, 82, 83, 84, 85, 86, 87, 88, 89, 90] (by decide +kernel) (by decide +kernel)
set_option maxRecDepth 20000 in
theorem gX5_adviceFor_X5_mustGiveWay : GoodIn wsX5_adviceFor (wsV RX5 155 RX5 yX5_mustGiveWay wsX5_mustGiveWay) := goodIn_app (goodIn_of _ (by decide +kernel)) ggX5_adviceFor_X5_mustGiveWay
set_option maxRecDepth 20000 in
theorem ggX5_adviceFor_X5_isClear : GoodIn wsX5_adviceFor wsX5_isClear := goodIn_r _ [69, 6, 23, 24, 25, 4, 26, 27, 28, 29, 30, 1, 2, 3, 5, 31, 32, 33, 34, 35, 36, 37, 38, 39, 40, 41, 42, 43, 44, 45, 46, 47, 48, 49, 50, 51, 52, 53, 54, 55, 56, 57, 58, 59, 70, 71, 72, 73, 74, 75, 76, 77, 78, 79, 80, 81, 82, 83, 84, 85, 86, 87, 88, 89, 90] (by decide +kernel) (by decide +kernel)
set_option maxRecDepth 20000 in
theorem gX5_adviceFor_X5_isClear : GoodIn wsX5_adviceFor (wsV RX5 158 RX5 yX5_isClear wsX5_isClear) := goodIn_app (goodIn_of _ (by decide +kernel)) ggX5_adviceFor_X5_isClear
theorem dX5_adviceFor_0 : decode cX5_adviceFor 0 = .ok (.aload_n 0, 1) := by decide +kernel
theorem dX5_adviceFor_1 : decode cX5_adviceFor 1 = .ok (.iload_n 1, 1) := by decide +kernel
theorem dX5_adviceFor_2 : decode cX5_adviceFor 2 = .ok (.iconst 2, 1) := by decide +kernel
theorem dX5_adviceFor_3 : decode cX5_adviceFor 3 = .ok (.invokevirtual 53, 3) := by decide +kernel
theorem dX5_adviceFor_6 : decode cX5_adviceFor 6 = .ok (.istore_n 2, 1) := by decide +kernel
theorem dX5_adviceFor_7 : decode cX5_adviceFor 7 = .ok (.aload_n 0, 1) := by decide +kernel
theorem dX5_adviceFor_8 : decode cX5_adviceFor 8 = .ok (.iload_n 1, 1) := by decide +kernel
theorem dX5_adviceFor_9 : decode cX5_adviceFor 9 = .ok (.invokevirtual 155, 3) := by decide +kernel
theorem dX5_adviceFor_12 : decode cX5_adviceFor 12 = .ok (.ifCond .ne 5, 3) := by decide +kernel
theorem dX5_adviceFor_15 : decode cX5_adviceFor 15 = .ok (.iload_n 2, 1) := by decide +kernel
theorem dX5_adviceFor_16 : decode cX5_adviceFor 16 = .ok (.ireturn, 1) := by decide +kernel
theorem dX5_adviceFor_17 : decode cX5_adviceFor 17 = .ok (.iconst 1, 1) := by decide +kernel
theorem dX5_adviceFor_18 : decode cX5_adviceFor 18 = .ok (.istore_n 3, 1) := by decide +kernel
theorem dX5_adviceFor_19 : decode cX5_adviceFor 19 = .ok (.iload_n 3, 1) := by decide +kernel
theorem dX5_adviceFor_20 : decode cX5_adviceFor 20 = .ok (.bipush 16, 2) := by decide +kernel
theorem dX5_adviceFor_22 : decode cX5_adviceFor 22 = .ok (.if_icmp .ge 49, 3) := by decide +kernel
theorem dX5_adviceFor_25 : decode cX5_adviceFor 25 = .ok (.iload_n 2, 1) := by decide +kernel
theorem dX5_adviceFor_26 : decode cX5_adviceFor 26 = .ok (.iload_n 3, 1) := by decide +kernel
theorem dX5_adviceFor_27 : decode cX5_adviceFor 27 = .ok (.bipush 9, 2) := by decide +kernel
theorem dX5_adviceFor_29 : decode cX5_adviceFor 29 = .ok (.if_icmp .ge 7, 3) := by decide +kernel
theorem dX5_adviceFor_32 : decode cX5_adviceFor 32 = .ok (.iload_n 3, 1) := by decide +kernel
theorem dX5_adviceFor_33 : decode cX5_adviceFor 33 = .ok (.goto 7, 3) := by decide +kernel
theorem dX5_adviceFor_36 : decode cX5_adviceFor 36 = .ok (.bipush 24, 2) := by decide +kernel
theorem dX5_adviceFor_38 : decode cX5_adviceFor 38 = .ok (.iload_n 3, 1) := by decide +kernel
theorem dX5_adviceFor_39 : decode cX5_adviceFor 39 = .ok (.isub, 1) := by decide +kernel
theorem dX5_adviceFor_40 : decode cX5_adviceFor 40 = .ok (.iadd, 1) := by decide +kernel
theorem dX5_adviceFor_41 : decode cX5_adviceFor 41 = .ok (.bipush 16, 2) := by decide +kernel
theorem dX5_adviceFor_43 : decode cX5_adviceFor 43 = .ok (.irem, 1) := by decide +kernel
theorem dX5_adviceFor_44 : decode cX5_adviceFor 44 = .ok (.istore 4, 2) := by decide +kernel
theorem dX5_adviceFor_46 : decode cX5_adviceFor 46 = .ok (.aload_n 0, 1) := by decide +kernel
theorem dX5_adviceFor_47 : decode cX5_adviceFor 47 = .ok (.iload_n 1, 1) := by decide +kernel
theorem dX5_adviceFor_48 : decode cX5_adviceFor 48 = .ok (.iload 4, 2) := by decide +kernel
theorem dX5_adviceFor_50 : decode cX5_adviceFor 50 = .ok (.aload_n 0, 1) := by decide +kernel
theorem dX5_adviceFor_51 : decode cX5_adviceFor 51 = .ok (.iload_n 1, 1) := by decide +kernel
theorem dX5_adviceFor_52 : decode cX5_adviceFor 52 = .ok (.iconst 3, 1) := by decide +kernel
theorem dX5_adviceFor_53 : decode cX5_adviceFor 53 = .ok (.invokevirtual 53, 3) := by decide +kernel
theorem dX5_adviceFor_56 : decode cX5_adviceFor 56 = .ok (.invokevirtual 158, 3) := by decide +kernel
theorem dX5_adviceFor_59 : decode cX5_adviceFor 59 = .ok (.ifCond .eq 6, 3) := by decide +kernel
theorem dX5_adviceFor_62 : decode cX5_adviceFor 62 = .ok (.iload 4, 2) := by decide +kernel
theorem dX5_adviceFor_64 : decode cX5_adviceFor 64 = .ok (.ireturn, 1) := by decide +kernel
theorem dX5_adviceFor_65 : decode cX5_adviceFor 65 = .ok (.iinc 3 1, 3) := by decide +kernel
theorem dX5_adviceFor_68 : decode cX5_adviceFor 68 = .ok (.goto (-49), 3) := by decide +kernel
theorem dX5_adviceFor_71 : decode cX5_adviceFor 71 = .ok (.aload_n 0, 1) := by decide +kernel
theorem dX5_adviceFor_72 : decode cX5_adviceFor 72 = .ok (.iload_n 1, 1) := by decide +kernel
theorem dX5_adviceFor_73 : decode cX5_adviceFor 73 = .ok (.iload_n 2, 1) := by decide +kernel
theorem dX5_adviceFor_74 : decode cX5_adviceFor 74 = .ok (.iconst 0, 1) := by decide +kernel
theorem dX5_adviceFor_75 : decode cX5_adviceFor 75 = .ok (.invokevirtual 158, 3) := by decide +kernel
theorem dX5_adviceFor_78 : decode cX5_adviceFor 78 = .ok (.ifCond .eq 8, 3) := by decide +kernel
theorem dX5_adviceFor_81 : decode cX5_adviceFor 81 = .ok (.bipush 16, 2) := by decide +kernel
theorem dX5_adviceFor_83 : decode cX5_adviceFor 83 = .ok (.goto 5, 3) := by decide +kernel
theorem dX5_adviceFor_86 : decode cX5_adviceFor 86 = .ok (.bipush 17, 2) := by decide +kernel
theorem dX5_adviceFor_88 : decode cX5_adviceFor 88 = .ok (.ireturn, 1) := by decide +kernel
set_option maxRecDepth 20000 in
theorem ggX5_putObeyed_X5_adviceFor : GoodIn wsX5_putObeyed wsX5_adviceFor := goodIn_r _ [5, 6, 7, 8, 4, 9, 10, 11, 12, 13, 14, 15, 16, 17, 18, 19, 20, 21, 22, 23, 24, 25, 26, 27, 28, 29, 30, 31, 32, 33, 34, 35, 36, 37, 38, 39, 40, 41, 42, 43, 44, 45, 46, 47, 48, 49, 50, 51, 52, 53, 54, 55, 56, 57, 58, 59, 60, 61, 62, 63, 64, 65, 66, 67, 68, 69, 70, 71, 72, 73, 78, 79, 80, 81, 82, 83, 84, 85, 86, 87, 88, 89, 90, 91, 92, 93, 94, 95, 96, 97, 98] (by decide +kernel) (by decide +kernel)
set_option maxRecDepth 20000 in
theorem gX5_putObeyed_X5_adviceFor : GoodIn wsX5_putObeyed (wsV RX5 161 RX5 yX5_adviceFor wsX5_adviceFor) := goodIn_app (goodIn_of _ (by decide +kernel)) ggX5_putObeyed_X5_adviceFor
set_option maxRecDepth 20000 in
theorem ggX5_putObeyed_X5_tells : GoodIn wsX5_putObeyed wsX5_tells := goodIn_r _ [77, 10, 78, 79, 80, 81, 82, 83, 84, 85, 86, 87, 88, 89, 90, 91, 92, 93, 94, 95, 96, 97, 98] (by decide +kernel) (by decide +kernel)
set_option maxRecDepth 20000 in
theorem gX5_putObeyed_X5_tells : GoodIn wsX5_putObeyed (wsV RX5 132 RX5 yX5_tells wsX5_tells) := goodIn_app (goodIn_of _ (by decide +kernel)) ggX5_putObeyed_X5_tells
theorem dX5_putObeyed_0 : decode cX5_putObeyed 0 = .ok (.aload_n 0, 1) := by decide +kernel
theorem dX5_putObeyed_1 : decode cX5_putObeyed 1 = .ok (.iconst 0, 1) := by decide +kernel
theorem dX5_putObeyed_2 : decode cX5_putObeyed 2 = .ok (.invokevirtual 161, 3) := by decide +kernel
theorem dX5_putObeyed_5 : decode cX5_putObeyed 5 = .ok (.istore_n 1, 1) := by decide +kernel
theorem dX5_putObeyed_6 : decode cX5_putObeyed 6 = .ok (.iload_n 1, 1) := by decide +kernel
theorem dX5_putObeyed_7 : decode cX5_putObeyed 7 = .ok (.bipush 16, 2) := by decide +kernel
theorem dX5_putObeyed_9 : decode cX5_putObeyed 9 = .ok (.if_icmp .ge 13, 3) := by decide +kernel
theorem dX5_putObeyed_12 : decode cX5_putObeyed 12 = .ok (.aload_n 0, 1) := by decide +kernel
theorem dX5_putObeyed_13 : decode cX5_putObeyed 13 = .ok (.iconst 0, 1) := by decide +kernel
theorem dX5_putObeyed_14 : decode cX5_putObeyed 14 = .ok (.iconst 2, 1) := by decide +kernel
theorem dX5_putObeyed_15 : decode cX5_putObeyed 15 = .ok (.iload_n 1, 1) := by decide +kernel
theorem dX5_putObeyed_16 : decode cX5_putObeyed 16 = .ok (.invokevirtual 132, 3) := by decide +kernel
theorem dX5_putObeyed_19 : decode cX5_putObeyed 19 = .ok (.goto 16, 3) := by decide +kernel
theorem dX5_putObeyed_22 : decode cX5_putObeyed 22 = .ok (.iload_n 1, 1) := by decide +kernel
theorem dX5_putObeyed_23 : decode cX5_putObeyed 23 = .ok (.bipush 16, 2) := by decide +kernel
theorem dX5_putObeyed_25 : decode cX5_putObeyed 25 = .ok (.if_icmp .ne 10, 3) := by decide +kernel
theorem dX5_putObeyed_28 : decode cX5_putObeyed 28 = .ok (.aload_n 0, 1) := by decide +kernel
theorem dX5_putObeyed_29 : decode cX5_putObeyed 29 = .ok (.iconst 0, 1) := by decide +kernel
theorem dX5_putObeyed_30 : decode cX5_putObeyed 30 = .ok (.iconst 3, 1) := by decide +kernel
theorem dX5_putObeyed_31 : decode cX5_putObeyed 31 = .ok (.iconst 0, 1) := by decide +kernel
theorem dX5_putObeyed_32 : decode cX5_putObeyed 32 = .ok (.invokevirtual 132, 3) := by decide +kernel
theorem dX5_putObeyed_35 : decode cX5_putObeyed 35 = .ok (.iload_n 1, 1) := by decide +kernel
theorem dX5_putObeyed_36 : decode cX5_putObeyed 36 = .ok (.ireturn, 1) := by decide +kernel
set_option maxRecDepth 20000 in
theorem ggX5_adds_X5_laysAside : GoodIn wsX5_adds wsX5_laysAside := goodIn_r _ [5, 6, 7, 44, 45, 46, 47, 48, 49, 50, 51, 52, 53, 54, 55, 56, 57, 58, 59, 60, 61, 62, 63, 64] (by decide +kernel) (by decide +kernel)
set_option maxRecDepth 20000 in
theorem gX5_adds_X5_laysAside : GoodIn wsX5_adds (wsV RX5 164 RX5 yX5_laysAside wsX5_laysAside) := goodIn_app (goodIn_of _ (by decide +kernel)) ggX5_adds_X5_laysAside
set_option maxRecDepth 20000 in
theorem ggX5_adds_X5_putOther : GoodIn wsX5_adds wsX5_putOther := goodIn_r _ [11, 7, 12, 13, 4, 14, 15, 16, 17, 18, 19, 20, 21, 22, 23, 24, 25, 26, 27, 28, 44, 45, 46, 47, 48, 49, 50, 51, 52, 53, 54, 55, 56, 57, 58, 59, 60, 61, 62, 63, 64] (by decide +kernel) (by decide +kernel)
set_option maxRecDepth 20000 in
theorem gX5_adds_X5_putOther : GoodIn wsX5_adds (wsV RX5 167 RX5 yX5_putOther wsX5_putOther) := goodIn_app (goodIn_of _ (by decide +kernel)) ggX5_adds_X5_putOther
set_option maxRecDepth 20000 in
theorem ggX5_adds_X5_finished : GoodIn wsX5_adds wsX5_finished := goodIn_r _ [32, 33, 34, 35, 4, 36, 37, 38, 39, 40, 41, 42, 43, 6, 44, 45, 46, 47, 48, 49, 50, 51, 52, 53, 54, 55, 56, 57, 58, 59, 60, 61, 62, 63, 64] (by decide +kernel) (by decide +kernel)
set_option maxRecDepth 20000 in
theorem gX5_adds_X5_finished : GoodIn wsX5_adds (wsV RX5 171 RX5 yX5_finished wsX5_finished) := goodIn_app (goodIn_of _ (by decide +kernel)) ggX5_adds_X5_finished
theorem dX5_adds_0 : decode cX5_adds 0 = .ok (.aload_n 0, 1) := by decide +kernel
theorem dX5_adds_1 : decode cX5_adds 1 = .ok (.invokevirtual 164, 3) := by decide +kernel
theorem dX5_adds_4 : decode cX5_adds 4 = .ok (.aload_n 0, 1) := by decide +kernel
theorem dX5_adds_5 : decode cX5_adds 5 = .ok (.aload_n 0, 1) := by decide +kernel
theorem dX5_adds_6 : decode cX5_adds 6 = .ok (.iload_n 1, 1) := by decide +kernel
theorem dX5_adds_7 : decode cX5_adds 7 = .ok (.iload_n 2, 1) := by decide +kernel
theorem dX5_adds_8 : decode cX5_adds 8 = .ok (.iload_n 3, 1) := by decide +kernel
theorem dX5_adds_9 : decode cX5_adds 9 = .ok (.iload 4, 2) := by decide +kernel
theorem dX5_adds_11 : decode cX5_adds 11 = .ok (.invokevirtual 167, 3) := by decide +kernel
theorem dX5_adds_14 : decode cX5_adds 14 = .ok (.invokevirtual 171, 3) := by decide +kernel
theorem dX5_adds_17 : decode cX5_adds 17 = .ok (.ireturn, 1) := by decide +kernel
set_option maxRecDepth 20000 in
theorem ggX5_own_X5_laysAside : GoodIn wsX5_own wsX5_laysAside := goodIn_r _ [5, 6, 7, 44, 45, 46, 47, 48, 49, 50, 51, 52, 53, 54, 55, 56, 57, 58, 59, 60, 61, 62, 63, 64] (by decide +kernel) (by decide +kernel)
set_option maxRecDepth 20000 in
theorem gX5_own_X5_laysAside : GoodIn wsX5_own (wsV RX5 164 RX5 yX5_laysAside wsX5_laysAside) := goodIn_app (goodIn_of _ (by decide +kernel)) ggX5_own_X5_laysAside
set_option maxRecDepth 20000 in
theorem ggX5_own_X5_putOwn : GoodIn wsX5_own wsX5_putOwn := goodIn_r _ [11, 7, 12, 13, 4, 14, 15, 16, 17, 18, 19, 20, 21, 22, 23, 24, 25, 26, 27, 28, 44, 45, 46, 47, 48, 49, 50, 51, 52, 53, 54, 55, 56, 57, 58, 59, 60, 61, 62, 63, 64] (by decide +kernel) (by decide +kernel)
set_option maxRecDepth 20000 in
theorem gX5_own_X5_putOwn : GoodIn wsX5_own (wsV RX5 174 RX5 yX5_putOwn wsX5_putOwn) := goodIn_app (goodIn_of _ (by decide +kernel)) ggX5_own_X5_putOwn
set_option maxRecDepth 20000 in
theorem ggX5_own_X5_finished : GoodIn wsX5_own wsX5_finished := goodIn_r _ [32, 33, 34, 35, 4, 36, 37, 38, 39, 40, 41, 42, 43, 6, 44, 45, 46, 47, 48, 49, 50, 51, 52, 53, 54, 55, 56, 57, 58, 59, 60, 61, 62, 63, 64] (by decide +kernel) (by decide +kernel)
set_option maxRecDepth 20000 in
theorem gX5_own_X5_finished : GoodIn wsX5_own (wsV RX5 171 RX5 yX5_finished wsX5_finished) := goodIn_app (goodIn_of _ (by decide +kernel)) ggX5_own_X5_finished
theorem dX5_own_0 : decode cX5_own 0 = .ok (.aload_n 0, 1) := by decide +kernel
theorem dX5_own_1 : decode cX5_own 1 = .ok (.invokevirtual 164, 3) := by decide +kernel
theorem dX5_own_4 : decode cX5_own 4 = .ok (.aload_n 0, 1) := by decide +kernel
theorem dX5_own_5 : decode cX5_own 5 = .ok (.aload_n 0, 1) := by decide +kernel
theorem dX5_own_6 : decode cX5_own 6 = .ok (.iload_n 1, 1) := by decide +kernel
theorem dX5_own_7 : decode cX5_own 7 = .ok (.iload_n 2, 1) := by decide +kernel
theorem dX5_own_8 : decode cX5_own 8 = .ok (.iload_n 3, 1) := by decide +kernel
theorem dX5_own_9 : decode cX5_own 9 = .ok (.iload 4, 2) := by decide +kernel
theorem dX5_own_11 : decode cX5_own 11 = .ok (.invokevirtual 174, 3) := by decide +kernel
theorem dX5_own_14 : decode cX5_own 14 = .ok (.invokevirtual 171, 3) := by decide +kernel
theorem dX5_own_17 : decode cX5_own 17 = .ok (.ireturn, 1) := by decide +kernel
set_option maxRecDepth 20000 in
theorem ggX5_drops_X5_laysAside : GoodIn wsX5_drops wsX5_laysAside := goodIn_r _ [5, 6, 7, 38, 39, 40, 41, 42, 43, 44, 45, 46, 47, 48, 49, 50, 51, 52, 53, 54, 55, 56, 57, 58] (by decide +kernel) (by decide +kernel)
set_option maxRecDepth 20000 in
theorem gX5_drops_X5_laysAside : GoodIn wsX5_drops (wsV RX5 164 RX5 yX5_laysAside wsX5_laysAside) := goodIn_app (goodIn_of _ (by decide +kernel)) ggX5_drops_X5_laysAside
set_option maxRecDepth 20000 in
theorem ggX5_drops_X5_putAway : GoodIn wsX5_drops wsX5_putAway := goodIn_r _ [11, 7, 12, 13, 14, 4, 15, 16, 17, 18, 19, 20, 21, 22, 38, 39, 40, 41, 42, 43, 44, 45, 46, 47, 48, 49, 50, 51, 52, 53, 54, 55, 56, 57, 58] (by decide +kernel) (by decide +kernel)
set_option maxRecDepth 20000 in
theorem gX5_drops_X5_putAway : GoodIn wsX5_drops (wsV RX5 177 RX5 yX5_putAway wsX5_putAway) := goodIn_app (goodIn_of _ (by decide +kernel)) ggX5_drops_X5_putAway
set_option maxRecDepth 20000 in
theorem ggX5_drops_X5_finished : GoodIn wsX5_drops wsX5_finished := goodIn_r _ [26, 27, 28, 29, 4, 30, 31, 32, 33, 34, 35, 36, 37, 6, 38, 39, 40, 41, 42, 43, 44, 45, 46, 47, 48, 49, 50, 51, 52, 53, 54, 55, 56, 57, 58] (by decide +kernel) (by decide +kernel)
set_option maxRecDepth 20000 in
theorem gX5_drops_X5_finished : GoodIn wsX5_drops (wsV RX5 171 RX5 yX5_finished wsX5_finished) := goodIn_app (goodIn_of _ (by decide +kernel)) ggX5_drops_X5_finished
theorem dX5_drops_0 : decode cX5_drops 0 = .ok (.aload_n 0, 1) := by decide +kernel
theorem dX5_drops_1 : decode cX5_drops 1 = .ok (.invokevirtual 164, 3) := by decide +kernel
theorem dX5_drops_4 : decode cX5_drops 4 = .ok (.aload_n 0, 1) := by decide +kernel
theorem dX5_drops_5 : decode cX5_drops 5 = .ok (.aload_n 0, 1) := by decide +kernel
theorem dX5_drops_6 : decode cX5_drops 6 = .ok (.iload_n 1, 1) := by decide +kernel
theorem dX5_drops_7 : decode cX5_drops 7 = .ok (.invokevirtual 177, 3) := by decide +kernel
theorem dX5_drops_10 : decode cX5_drops 10 = .ok (.invokevirtual 171, 3) := by decide +kernel
theorem dX5_drops_13 : decode cX5_drops 13 = .ok (.ireturn, 1) := by decide +kernel
set_option maxRecDepth 20000 in
theorem ggX5_veers_X5_laysAside : GoodIn wsX5_veers wsX5_laysAside := goodIn_r _ [5, 6, 7, 45, 46, 47, 48, 49, 50, 51, 52, 53, 54, 55, 56, 57, 58, 59, 60, 61, 62, 63, 64, 65] (by decide +kernel) (by decide +kernel)
set_option maxRecDepth 20000 in
theorem gX5_veers_X5_laysAside : GoodIn wsX5_veers (wsV RX5 164 RX5 yX5_laysAside wsX5_laysAside) := goodIn_app (goodIn_of _ (by decide +kernel)) ggX5_veers_X5_laysAside
set_option maxRecDepth 20000 in
theorem ggX5_veers_X5_putCourse : GoodIn wsX5_veers wsX5_putCourse := goodIn_r _ [11, 12, 13, 14, 4, 15, 7, 16, 17, 18, 19, 20, 21, 22, 23, 24, 25, 26, 27, 28, 29, 45, 46, 47, 48, 49, 50, 51, 52, 53, 54, 55, 56, 57, 58, 59, 60, 61, 62, 63, 64, 65] (by decide +kernel) (by decide +kernel)
set_option maxRecDepth 20000 in
theorem gX5_veers_X5_putCourse : GoodIn wsX5_veers (wsV RX5 180 RX5 yX5_putCourse wsX5_putCourse) := goodIn_app (goodIn_of _ (by decide +kernel)) ggX5_veers_X5_putCourse
set_option maxRecDepth 20000 in
theorem ggX5_veers_X5_finished : GoodIn wsX5_veers wsX5_finished := goodIn_r _ [33, 34, 35, 36, 4, 37, 38, 39, 40, 41, 42, 43, 44, 6, 45, 46, 47, 48, 49, 50, 51, 52, 53, 54, 55, 56, 57, 58, 59, 60, 61, 62, 63, 64, 65] (by decide +kernel) (by decide +kernel)
set_option maxRecDepth 20000 in
theorem gX5_veers_X5_finished : GoodIn wsX5_veers (wsV RX5 171 RX5 yX5_finished wsX5_finished) := goodIn_app (goodIn_of _ (by decide +kernel)) ggX5_veers_X5_finished
theorem dX5_veers_0 : decode cX5_veers 0 = .ok (.aload_n 0, 1) := by decide +kernel
theorem dX5_veers_1 : decode cX5_veers 1 = .ok (.invokevirtual 164, 3) := by decide +kernel
theorem dX5_veers_4 : decode cX5_veers 4 = .ok (.aload_n 0, 1) := by decide +kernel
theorem dX5_veers_5 : decode cX5_veers 5 = .ok (.aload_n 0, 1) := by decide +kernel
theorem dX5_veers_6 : decode cX5_veers 6 = .ok (.iload_n 1, 1) := by decide +kernel
theorem dX5_veers_7 : decode cX5_veers 7 = .ok (.iload_n 2, 1) := by decide +kernel
theorem dX5_veers_8 : decode cX5_veers 8 = .ok (.iload_n 3, 1) := by decide +kernel
theorem dX5_veers_9 : decode cX5_veers 9 = .ok (.invokevirtual 180, 3) := by decide +kernel
theorem dX5_veers_12 : decode cX5_veers 12 = .ok (.invokevirtual 171, 3) := by decide +kernel
theorem dX5_veers_15 : decode cX5_veers 15 = .ok (.ireturn, 1) := by decide +kernel
set_option maxRecDepth 20000 in
theorem ggX5_sets_X5_laysAside : GoodIn wsX5_sets wsX5_laysAside := goodIn_r _ [5, 6, 7, 30, 31, 32, 33, 34, 35, 36, 37, 38, 39, 40, 41, 42, 43, 44, 45, 46, 47, 48, 49, 50] (by decide +kernel) (by decide +kernel)
set_option maxRecDepth 20000 in
theorem gX5_sets_X5_laysAside : GoodIn wsX5_sets (wsV RX5 164 RX5 yX5_laysAside wsX5_laysAside) := goodIn_app (goodIn_of _ (by decide +kernel)) ggX5_sets_X5_laysAside
set_option maxRecDepth 20000 in
theorem ggX5_sets_X5_putSetting : GoodIn wsX5_sets wsX5_putSetting := goodIn_r _ [11, 7, 12, 13, 4, 14, 30, 31, 32, 33, 34, 35, 36, 37, 38, 39, 40, 41, 42, 43, 44, 45, 46, 47, 48, 49, 50] (by decide +kernel) (by decide +kernel)
set_option maxRecDepth 20000 in
theorem gX5_sets_X5_putSetting : GoodIn wsX5_sets (wsV RX5 184 RX5 yX5_putSetting wsX5_putSetting) := goodIn_app (goodIn_of _ (by decide +kernel)) ggX5_sets_X5_putSetting
set_option maxRecDepth 20000 in
theorem ggX5_sets_X5_finished : GoodIn wsX5_sets wsX5_finished := goodIn_r _ [18, 19, 20, 21, 4, 22, 23, 24, 25, 26, 27, 28, 29, 6, 30, 31, 32, 33, 34, 35, 36, 37, 38, 39, 40, 41, 42, 43, 44, 45, 46, 47, 48, 49, 50] (by decide +kernel) (by decide +kernel)
set_option maxRecDepth 20000 in
theorem gX5_sets_X5_finished : GoodIn wsX5_sets (wsV RX5 171 RX5 yX5_finished wsX5_finished) := goodIn_app (goodIn_of _ (by decide +kernel)) ggX5_sets_X5_finished
theorem dX5_sets_0 : decode cX5_sets 0 = .ok (.aload_n 0, 1) := by decide +kernel
theorem dX5_sets_1 : decode cX5_sets 1 = .ok (.invokevirtual 164, 3) := by decide +kernel
theorem dX5_sets_4 : decode cX5_sets 4 = .ok (.aload_n 0, 1) := by decide +kernel
theorem dX5_sets_5 : decode cX5_sets 5 = .ok (.aload_n 0, 1) := by decide +kernel
theorem dX5_sets_6 : decode cX5_sets 6 = .ok (.iload_n 1, 1) := by decide +kernel
theorem dX5_sets_7 : decode cX5_sets 7 = .ok (.iload_n 2, 1) := by decide +kernel
theorem dX5_sets_8 : decode cX5_sets 8 = .ok (.invokevirtual 184, 3) := by decide +kernel
theorem dX5_sets_11 : decode cX5_sets 11 = .ok (.invokevirtual 171, 3) := by decide +kernel
theorem dX5_sets_14 : decode cX5_sets 14 = .ok (.ireturn, 1) := by decide +kernel
set_option maxRecDepth 20000 in
theorem ggX5_steps_X5_laysAside : GoodIn wsX5_steps wsX5_laysAside := goodIn_r _ [5, 6, 7, 112, 113, 114, 115, 116, 117, 118, 119, 120, 121, 122, 123, 124, 125, 126, 127, 128, 129, 130, 131, 132] (by decide +kernel) (by decide +kernel)
set_option maxRecDepth 20000 in
theorem gX5_steps_X5_laysAside : GoodIn wsX5_steps (wsV RX5 164 RX5 yX5_laysAside wsX5_laysAside) := goodIn_app (goodIn_of _ (by decide +kernel)) ggX5_steps_X5_laysAside
set_option maxRecDepth 20000 in
theorem ggX5_steps_X5_putSteps : GoodIn wsX5_steps wsX5_putSteps := goodIn_r _ [11, 7, 12, 13, 4, 14, 15, 16, 17, 18, 19, 20, 21, 22, 23, 24, 25, 26, 27, 28, 29, 30, 31, 32, 33, 34, 35, 36, 37, 38, 39, 40, 41, 42, 43, 44, 45, 46, 47, 48, 49, 50, 51, 52, 53, 54, 55, 56, 57, 58, 59, 60, 61, 62, 63, 64, 65, 66, 67, 68, 69, 70, 71, 72, 73, 74, 75, 76, 77, 78, 79, 80, 81, 82, 83, 84, 85, 86, 87, 88, 89, 90, 91, 92, 93, 94, 95, 96, 112, 113, 114, 115, 116, 117, 118, 119, 120, 121, 122, 123, 124, 125, 126, 127, 128, 129, 130, 131, 132] (by decide +kernel) (by decide +kernel)
set_option maxRecDepth 20000 in
theorem gX5_steps_X5_putSteps : GoodIn wsX5_steps (wsV RX5 187 RX5 yX5_putSteps wsX5_putSteps) := goodIn_app (goodIn_of _ (by decide +kernel)) ggX5_steps_X5_putSteps
set_option maxRecDepth 20000 in
theorem ggX5_steps_X5_finished : GoodIn wsX5_steps wsX5_finished := goodIn_r _ [100, 101, 102, 103, 4, 104, 105, 106, 107, 108, 109, 110, 111, 6, 112, 113, 114, 115, 116, 117, 118, 119, 120, 121, 122, 123, 124, 125, 126, 127, 128, 129, 130, 131, 132] (by decide +kernel) (by decide +kernel)
set_option maxRecDepth 20000 in
theorem gX5_steps_X5_finished : GoodIn wsX5_steps (wsV RX5 171 RX5 yX5_finished wsX5_finished) := goodIn_app (goodIn_of _ (by decide +kernel)) ggX5_steps_X5_finished
theorem dX5_steps_0 : decode cX5_steps 0 = .ok (.aload_n 0, 1) := by decide +kernel
theorem dX5_steps_1 : decode cX5_steps 1 = .ok (.invokevirtual 164, 3) := by decide +kernel
theorem dX5_steps_4 : decode cX5_steps 4 = .ok (.aload_n 0, 1) := by decide +kernel
theorem dX5_steps_5 : decode cX5_steps 5 = .ok (.aload_n 0, 1) := by decide +kernel
theorem dX5_steps_6 : decode cX5_steps 6 = .ok (.iload_n 1, 1) := by decide +kernel
theorem dX5_steps_7 : decode cX5_steps 7 = .ok (.invokevirtual 187, 3) := by decide +kernel
theorem dX5_steps_10 : decode cX5_steps 10 = .ok (.invokevirtual 171, 3) := by decide +kernel
theorem dX5_steps_13 : decode cX5_steps 13 = .ok (.ireturn, 1) := by decide +kernel
set_option maxRecDepth 20000 in
theorem ggX5_looks_X5_laysAside : GoodIn wsX5_looks wsX5_laysAside := goodIn_r _ [5, 6, 7, 94, 95, 96, 97, 98, 99, 100, 101, 102, 103, 104, 105, 106, 107, 108, 109, 110, 111, 112, 113, 114] (by decide +kernel) (by decide +kernel)
set_option maxRecDepth 20000 in
theorem gX5_looks_X5_laysAside : GoodIn wsX5_looks (wsV RX5 164 RX5 yX5_laysAside wsX5_laysAside) := goodIn_app (goodIn_of _ (by decide +kernel)) ggX5_looks_X5_laysAside
set_option maxRecDepth 20000 in
theorem ggX5_looks_X5_look : GoodIn wsX5_looks wsX5_look := goodIn_r _ [11, 7, 12, 13, 14, 4, 15, 16, 17, 18, 19, 20, 21, 22, 23, 24, 25, 26, 27, 28, 29, 30, 31, 32, 33, 34, 35, 36, 37, 38, 39, 40, 41, 42, 43, 44, 45, 46, 47, 48, 49, 50, 51, 52, 53, 54, 55, 56, 57, 58, 59, 60, 61, 62, 63, 64, 65, 66, 67, 68, 69, 70, 71, 72, 73, 74, 75, 76, 77, 78, 94, 95, 96, 97, 98, 99, 100, 101, 102, 103, 104, 105, 106, 107, 108, 109, 110, 111, 112, 113, 114] (by decide +kernel) (by decide +kernel)
set_option maxRecDepth 20000 in
theorem gX5_looks_X5_look : GoodIn wsX5_looks (wsV RX5 151 RX5 yX5_look wsX5_look) := goodIn_app (goodIn_of _ (by decide +kernel)) ggX5_looks_X5_look
set_option maxRecDepth 20000 in
theorem ggX5_looks_X5_finished : GoodIn wsX5_looks wsX5_finished := goodIn_r _ [82, 83, 84, 85, 4, 86, 87, 88, 89, 90, 91, 92, 93, 6, 94, 95, 96, 97, 98, 99, 100, 101, 102, 103, 104, 105, 106, 107, 108, 109, 110, 111, 112, 113, 114] (by decide +kernel) (by decide +kernel)
set_option maxRecDepth 20000 in
theorem gX5_looks_X5_finished : GoodIn wsX5_looks (wsV RX5 171 RX5 yX5_finished wsX5_finished) := goodIn_app (goodIn_of _ (by decide +kernel)) ggX5_looks_X5_finished
theorem dX5_looks_0 : decode cX5_looks 0 = .ok (.aload_n 0, 1) := by decide +kernel
theorem dX5_looks_1 : decode cX5_looks 1 = .ok (.invokevirtual 164, 3) := by decide +kernel
theorem dX5_looks_4 : decode cX5_looks 4 = .ok (.aload_n 0, 1) := by decide +kernel
theorem dX5_looks_5 : decode cX5_looks 5 = .ok (.aload_n 0, 1) := by decide +kernel
theorem dX5_looks_6 : decode cX5_looks 6 = .ok (.invokevirtual 151, 3) := by decide +kernel
theorem dX5_looks_9 : decode cX5_looks 9 = .ok (.invokevirtual 171, 3) := by decide +kernel
theorem dX5_looks_12 : decode cX5_looks 12 = .ok (.ireturn, 1) := by decide +kernel
set_option maxRecDepth 20000 in
theorem ggX5_obeys_X5_laysAside : GoodIn wsX5_obeys wsX5_laysAside := goodIn_r _ [5, 6, 7, 102, 103, 104, 105, 106, 107, 108, 109, 110, 111, 112, 113, 114, 115, 116, 117, 118, 119, 120, 121, 122] (by decide +kernel) (by decide +kernel)
set_option maxRecDepth 20000 in
theorem gX5_obeys_X5_laysAside : GoodIn wsX5_obeys (wsV RX5 164 RX5 yX5_laysAside wsX5_laysAside) := goodIn_app (goodIn_of _ (by decide +kernel)) ggX5_obeys_X5_laysAside
set_option maxRecDepth 20000 in
theorem ggX5_obeys_X5_putObeyed : GoodIn wsX5_obeys wsX5_putObeyed := goodIn_r _ [11, 12, 13, 14, 4, 15, 16, 17, 18, 19, 7, 20, 21, 22, 23, 24, 25, 26, 27, 28, 29, 30, 31, 32, 33, 34, 35, 36, 37, 38, 39, 40, 41, 42, 43, 44, 45, 46, 47, 48, 49, 50, 51, 52, 53, 54, 55, 56, 57, 58, 59, 60, 61, 62, 63, 64, 65, 66, 67, 68, 69, 70, 71, 72, 73, 74, 75, 76, 77, 78, 79, 80, 81, 82, 83, 84, 85, 86, 102, 103, 104, 105, 106, 107, 108, 109, 110, 111, 112, 113, 114, 115, 116, 117, 118, 119, 120, 121, 122] (by decide +kernel) (by decide +kernel)
set_option maxRecDepth 20000 in
theorem gX5_obeys_X5_putObeyed : GoodIn wsX5_obeys (wsV RX5 190 RX5 yX5_putObeyed wsX5_putObeyed) := goodIn_app (goodIn_of _ (by decide +kernel)) ggX5_obeys_X5_putObeyed
set_option maxRecDepth 20000 in
theorem ggX5_obeys_X5_finished : GoodIn wsX5_obeys wsX5_finished := goodIn_r _ [90, 91, 92, 93, 4, 94, 95, 96, 97, 98, 99, 100, 101, 6, 102, 103, 104, 105, 106, 107, 108, 109, 110, 111, 112, 113, 114, 115, 116, 117, 118, 119, 120, 121, 122] (by decide +kernel) (by decide +kernel)
set_option maxRecDepth 20000 in
theorem gX5_obeys_X5_finished : GoodIn wsX5_obeys (wsV RX5 171 RX5 yX5_finished wsX5_finished) := goodIn_app (goodIn_of _ (by decide +kernel)) ggX5_obeys_X5_finished
theorem dX5_obeys_0 : decode cX5_obeys 0 = .ok (.aload_n 0, 1) := by decide +kernel
theorem dX5_obeys_1 : decode cX5_obeys 1 = .ok (.invokevirtual 164, 3) := by decide +kernel
theorem dX5_obeys_4 : decode cX5_obeys 4 = .ok (.aload_n 0, 1) := by decide +kernel
theorem dX5_obeys_5 : decode cX5_obeys 5 = .ok (.aload_n 0, 1) := by decide +kernel
theorem dX5_obeys_6 : decode cX5_obeys 6 = .ok (.invokevirtual 190, 3) := by decide +kernel
theorem dX5_obeys_9 : decode cX5_obeys 9 = .ok (.invokevirtual 171, 3) := by decide +kernel
theorem dX5_obeys_12 : decode cX5_obeys 12 = .ok (.ireturn, 1) := by decide +kernel
set_option maxRecDepth 20000 in
theorem ggX5_told0_X5_shipOf : GoodIn wsX5_told0 wsX5_shipOf := goodIn_r _ [5, 6, 21, 22, 23, 24, 25, 26, 27, 28, 29, 30, 31, 32, 33, 34, 35, 36, 37, 38, 39, 40, 41] (by decide +kernel) (by decide +kernel)
set_option maxRecDepth 20000 in
theorem gX5_told0_X5_shipOf : GoodIn wsX5_told0 (wsV RX5 53 RX5 yX5_shipOf wsX5_shipOf) := goodIn_app (goodIn_of _ (by decide +kernel)) ggX5_told0_X5_shipOf
set_option maxRecDepth 20000 in
theorem ggX5_told0_X5_eastSpeed : GoodIn wsX5_told0 wsX5_eastSpeed := goodIn_r _ [10, 1, 2, 3, 4, 5, 6, 11, 12, 13, 14, 15, 16, 21, 22, 23, 24, 25, 26, 27, 28, 29, 30, 31, 32, 33, 34, 35, 36, 37, 38, 39, 40, 41] (by decide +kernel) (by decide +kernel)
set_option maxRecDepth 20000 in
theorem gX5_told0_X5_eastSpeed : GoodIn wsX5_told0 (wsV RX5 145 RX5 yX5_eastSpeed wsX5_eastSpeed) := goodIn_app (goodIn_of _ (by decide +kernel)) ggX5_told0_X5_eastSpeed
set_option maxRecDepth 20000 in
theorem ggX5_told0_X5_northSpeed : GoodIn wsX5_told0 wsX5_northSpeed := goodIn_r _ [20, 1, 2, 3, 4, 5, 6, 14, 15, 16, 21, 22, 23, 24, 25, 26, 27, 28, 29, 30, 31, 32, 33, 34, 35, 36, 37, 38, 39, 40, 41] (by decide +kernel) (by decide +kernel)
set_option maxRecDepth 20000 in
theorem gX5_told0_X5_northSpeed : GoodIn wsX5_told0 (wsV RX5 148 RX5 yX5_northSpeed wsX5_northSpeed) := goodIn_app (goodIn_of _ (by decide +kernel)) ggX5_told0_X5_northSpeed
theorem dX5_told0_0 : decode cX5_told0 0 = .ok (.iload_n 2, 1) := by decide +kernel
theorem dX5_told0_1 : decode cX5_told0 1 = .ok (.iconst 4, 1) := by decide +kernel
theorem dX5_told0_2 : decode cX5_told0 2 = .ok (.if_icmp .ge 12, 3) := by decide +kernel
theorem dX5_told0_5 : decode cX5_told0 5 = .ok (.aload_n 0, 1) := by decide +kernel
theorem dX5_told0_6 : decode cX5_told0 6 = .ok (.iload_n 1, 1) := by decide +kernel
theorem dX5_told0_7 : decode cX5_told0 7 = .ok (.iload_n 2, 1) := by decide +kernel
theorem dX5_told0_8 : decode cX5_told0 8 = .ok (.invokevirtual 53, 3) := by decide +kernel
theorem dX5_told0_11 : decode cX5_told0 11 = .ok (.goto 21, 3) := by decide +kernel
theorem dX5_told0_14 : decode cX5_told0 14 = .ok (.iload_n 2, 1) := by decide +kernel
theorem dX5_told0_15 : decode cX5_told0 15 = .ok (.iconst 4, 1) := by decide +kernel
theorem dX5_told0_16 : decode cX5_told0 16 = .ok (.if_icmp .ne 11, 3) := by decide +kernel
theorem dX5_told0_19 : decode cX5_told0 19 = .ok (.aload_n 0, 1) := by decide +kernel
theorem dX5_told0_20 : decode cX5_told0 20 = .ok (.iload_n 1, 1) := by decide +kernel
theorem dX5_told0_21 : decode cX5_told0 21 = .ok (.invokevirtual 145, 3) := by decide +kernel
theorem dX5_told0_24 : decode cX5_told0 24 = .ok (.goto 8, 3) := by decide +kernel
theorem dX5_told0_27 : decode cX5_told0 27 = .ok (.aload_n 0, 1) := by decide +kernel
theorem dX5_told0_28 : decode cX5_told0 28 = .ok (.iload_n 1, 1) := by decide +kernel
theorem dX5_told0_29 : decode cX5_told0 29 = .ok (.invokevirtual 148, 3) := by decide +kernel
theorem dX5_told0_32 : decode cX5_told0 32 = .ok (.ireturn, 1) := by decide +kernel
set_option maxRecDepth 20000 in
theorem ggX5_of_X5_isShip : GoodIn wsX5_of wsX5_isShip := goodIn_r _ [5, 6, 7, 8, 4, 9, 37, 38, 39, 40, 41, 42, 43, 44, 45, 46, 47, 48, 49, 50, 51, 52, 53, 54, 55, 56, 57] (by decide +kernel) (by decide +kernel)
set_option maxRecDepth 20000 in
theorem gX5_of_X5_isShip : GoodIn wsX5_of (wsV RX5 46 RX5 yX5_isShip wsX5_isShip) := goodIn_app (goodIn_of _ (by decide +kernel)) ggX5_of_X5_isShip
set_option maxRecDepth 20000 in
theorem ggX5_of_X5_in : GoodIn wsX5_of wsX5_in := goodIn_r _ [9] (by decide +kernel) (by decide +kernel)
set_option maxRecDepth 20000 in
theorem gX5_of_X5_in : GoodIn wsX5_of (va_wsS RX5 42 yX5_in wsX5_in) := goodIn_app (goodIn_of _ (by decide +kernel)) ggX5_of_X5_in
set_option maxRecDepth 20000 in
theorem ggX5_of_X5_told0 : GoodIn wsX5_of wsX5_told0 := goodIn_r _ [13, 14, 15, 16, 4, 17, 6, 18, 19, 20, 21, 22, 23, 24, 25, 26, 27, 28, 29, 30, 31, 37, 38, 39, 40, 41, 42, 43, 44, 45, 46, 47, 48, 49, 50, 51, 52, 53, 54, 55, 56, 57] (by decide +kernel) (by decide +kernel)
set_option maxRecDepth 20000 in
theorem gX5_of_X5_told0 : GoodIn wsX5_of (wsV RX5 193 RX5 yX5_told0 wsX5_told0) := goodIn_app (goodIn_of _ (by decide +kernel)) ggX5_of_X5_told0
set_option maxRecDepth 20000 in
theorem ggX5_of_X5_refuses : GoodIn wsX5_of wsX5_refuses := goodIn_r _ [35, 36, 37, 38, 39, 40, 41, 42, 43, 44, 45, 46, 47, 48, 49, 50, 51, 52, 53, 54, 55, 56, 57] (by decide +kernel) (by decide +kernel)
set_option maxRecDepth 20000 in
theorem gX5_of_X5_refuses : GoodIn wsX5_of (wsV RX5 35 RX5 yX5_refuses wsX5_refuses) := goodIn_app (goodIn_of _ (by decide +kernel)) ggX5_of_X5_refuses
theorem dX5_of_0 : decode cX5_of 0 = .ok (.aload_n 0, 1) := by decide +kernel
theorem dX5_of_1 : decode cX5_of 1 = .ok (.iload_n 1, 1) := by decide +kernel
theorem dX5_of_2 : decode cX5_of 2 = .ok (.invokevirtual 46, 3) := by decide +kernel
theorem dX5_of_5 : decode cX5_of 5 = .ok (.ifCond .eq 21, 3) := by decide +kernel
theorem dX5_of_8 : decode cX5_of 8 = .ok (.iload_n 2, 1) := by decide +kernel
theorem dX5_of_9 : decode cX5_of 9 = .ok (.iconst 0, 1) := by decide +kernel
theorem dX5_of_10 : decode cX5_of 10 = .ok (.iconst 5, 1) := by decide +kernel
theorem dX5_of_11 : decode cX5_of 11 = .ok (.invokestatic 42, 3) := by decide +kernel
theorem dX5_of_14 : decode cX5_of 14 = .ok (.ifCond .eq 12, 3) := by decide +kernel
theorem dX5_of_17 : decode cX5_of 17 = .ok (.aload_n 0, 1) := by decide +kernel
theorem dX5_of_18 : decode cX5_of 18 = .ok (.iload_n 1, 1) := by decide +kernel
theorem dX5_of_19 : decode cX5_of 19 = .ok (.iload_n 2, 1) := by decide +kernel
theorem dX5_of_20 : decode cX5_of 20 = .ok (.invokevirtual 193, 3) := by decide +kernel
theorem dX5_of_23 : decode cX5_of 23 = .ok (.goto 10, 3) := by decide +kernel
theorem dX5_of_26 : decode cX5_of 26 = .ok (.aload_n 0, 1) := by decide +kernel
theorem dX5_of_27 : decode cX5_of 27 = .ok (.sipush (-10002), 3) := by decide +kernel
theorem dX5_of_30 : decode cX5_of 30 = .ok (.invokevirtual 35, 3) := by decide +kernel
theorem dX5_of_33 : decode cX5_of 33 = .ok (.ireturn, 1) := by decide +kernel
set_option maxRecDepth 20000 in
theorem ggX5_areTwo_X5_isShip : GoodIn wsX5_areTwo wsX5_isShip := goodIn_r _ [5, 6, 7, 8, 4, 9, 10, 11, 12, 13, 14, 15, 16, 17, 18, 19, 20, 21, 22, 23, 24, 25, 26, 27, 28, 29, 30] (by decide +kernel) (by decide +kernel)
set_option maxRecDepth 20000 in
theorem gX5_areTwo_X5_isShip : GoodIn wsX5_areTwo (wsV RX5 46 RX5 yX5_isShip wsX5_isShip) := goodIn_app (goodIn_of _ (by decide +kernel)) ggX5_areTwo_X5_isShip
theorem dX5_areTwo_0 : decode cX5_areTwo 0 = .ok (.aload_n 0, 1) := by decide +kernel
theorem dX5_areTwo_1 : decode cX5_areTwo 1 = .ok (.iload_n 1, 1) := by decide +kernel
theorem dX5_areTwo_2 : decode cX5_areTwo 2 = .ok (.invokevirtual 46, 3) := by decide +kernel
theorem dX5_areTwo_5 : decode cX5_areTwo 5 = .ok (.ifCond .eq 20, 3) := by decide +kernel
theorem dX5_areTwo_8 : decode cX5_areTwo 8 = .ok (.aload_n 0, 1) := by decide +kernel
theorem dX5_areTwo_9 : decode cX5_areTwo 9 = .ok (.iload_n 2, 1) := by decide +kernel
theorem dX5_areTwo_10 : decode cX5_areTwo 10 = .ok (.invokevirtual 46, 3) := by decide +kernel
theorem dX5_areTwo_13 : decode cX5_areTwo 13 = .ok (.ifCond .eq 12, 3) := by decide +kernel
theorem dX5_areTwo_16 : decode cX5_areTwo 16 = .ok (.iload_n 1, 1) := by decide +kernel
theorem dX5_areTwo_17 : decode cX5_areTwo 17 = .ok (.iload_n 2, 1) := by decide +kernel
theorem dX5_areTwo_18 : decode cX5_areTwo 18 = .ok (.if_icmp .eq 7, 3) := by decide +kernel
theorem dX5_areTwo_21 : decode cX5_areTwo 21 = .ok (.iconst 1, 1) := by decide +kernel
theorem dX5_areTwo_22 : decode cX5_areTwo 22 = .ok (.goto 4, 3) := by decide +kernel
theorem dX5_areTwo_25 : decode cX5_areTwo 25 = .ok (.iconst 0, 1) := by decide +kernel
theorem dX5_areTwo_26 : decode cX5_areTwo 26 = .ok (.ireturn, 1) := by decide +kernel
set_option maxRecDepth 20000 in
theorem ggX5_closestOf_X5_laysAsTheyAre : GoodIn wsX5_closestOf wsX5_laysAsTheyAre := goodIn_r _ [9, 10, 11, 12, 8, 13, 14, 15, 16, 17, 18, 19, 20, 21, 22, 23, 24, 25, 26, 27, 28, 44, 45, 46, 47, 48, 49, 50, 51, 52, 53, 54, 55, 56, 57, 58, 59, 60, 61, 62, 63, 64] (by decide +kernel) (by decide +kernel)
set_option maxRecDepth 20000 in
theorem gX5_closestOf_X5_laysAsTheyAre : GoodIn wsX5_closestOf (wsV RX5 103 RX5 yX5_laysAsTheyAre wsX5_laysAsTheyAre) := goodIn_app (goodIn_of _ (by decide +kernel)) ggX5_closestOf_X5_laysAsTheyAre
set_option maxRecDepth 20000 in
theorem ggX5_closestOf_X5_findsClosest : GoodIn wsX5_closestOf wsX5_findsClosest := goodIn_r _ [32, 1, 2, 3, 4, 21, 22, 19, 20, 33, 34, 35, 8, 36, 37, 38, 39, 40, 41, 42, 43, 44, 45, 46, 47, 48, 49, 50, 51, 52, 53, 54, 55, 56, 57, 58, 59, 60, 61, 62, 63, 64] (by decide +kernel) (by decide +kernel)
set_option maxRecDepth 20000 in
theorem gX5_closestOf_X5_findsClosest : GoodIn wsX5_closestOf (wsV RX5 100 RX5 yX5_findsClosest wsX5_findsClosest) := goodIn_app (goodIn_of _ (by decide +kernel)) ggX5_closestOf_X5_findsClosest
theorem dX5_closestOf_0 : decode cX5_closestOf 0 = .ok (.aload_n 0, 1) := by decide +kernel
theorem dX5_closestOf_1 : decode cX5_closestOf 1 = .ok (.iload_n 1, 1) := by decide +kernel
theorem dX5_closestOf_2 : decode cX5_closestOf 2 = .ok (.iload_n 2, 1) := by decide +kernel
theorem dX5_closestOf_3 : decode cX5_closestOf 3 = .ok (.invokevirtual 103, 3) := by decide +kernel
theorem dX5_closestOf_6 : decode cX5_closestOf 6 = .ok (.aload_n 0, 1) := by decide +kernel
theorem dX5_closestOf_7 : decode cX5_closestOf 7 = .ok (.invokevirtual 100, 3) := by decide +kernel
theorem dX5_closestOf_10 : decode cX5_closestOf 10 = .ok (.iload_n 3, 1) := by decide +kernel
theorem dX5_closestOf_11 : decode cX5_closestOf 11 = .ok (.ifCond .ne 10, 3) := by decide +kernel
theorem dX5_closestOf_14 : decode cX5_closestOf 14 = .ok (.aload_n 0, 1) := by decide +kernel
theorem dX5_closestOf_15 : decode cX5_closestOf 15 = .ok (.getfield 81, 3) := by decide +kernel
theorem dX5_closestOf_18 : decode cX5_closestOf 18 = .ok (.goto 31, 3) := by decide +kernel
theorem dX5_closestOf_21 : decode cX5_closestOf 21 = .ok (.iload_n 3, 1) := by decide +kernel
theorem dX5_closestOf_22 : decode cX5_closestOf 22 = .ok (.iconst 1, 1) := by decide +kernel
theorem dX5_closestOf_23 : decode cX5_closestOf 23 = .ok (.if_icmp .ne 10, 3) := by decide +kernel
theorem dX5_closestOf_26 : decode cX5_closestOf 26 = .ok (.aload_n 0, 1) := by decide +kernel
theorem dX5_closestOf_27 : decode cX5_closestOf 27 = .ok (.getfield 84, 3) := by decide +kernel
theorem dX5_closestOf_30 : decode cX5_closestOf 30 = .ok (.goto 19, 3) := by decide +kernel
theorem dX5_closestOf_33 : decode cX5_closestOf 33 = .ok (.iload_n 3, 1) := by decide +kernel
theorem dX5_closestOf_34 : decode cX5_closestOf 34 = .ok (.iconst 2, 1) := by decide +kernel
theorem dX5_closestOf_35 : decode cX5_closestOf 35 = .ok (.if_icmp .ne 10, 3) := by decide +kernel
theorem dX5_closestOf_38 : decode cX5_closestOf 38 = .ok (.aload_n 0, 1) := by decide +kernel
theorem dX5_closestOf_39 : decode cX5_closestOf 39 = .ok (.getfield 90, 3) := by decide +kernel
theorem dX5_closestOf_42 : decode cX5_closestOf 42 = .ok (.goto 7, 3) := by decide +kernel
theorem dX5_closestOf_45 : decode cX5_closestOf 45 = .ok (.aload_n 0, 1) := by decide +kernel
theorem dX5_closestOf_46 : decode cX5_closestOf 46 = .ok (.getfield 93, 3) := by decide +kernel
theorem dX5_closestOf_49 : decode cX5_closestOf 49 = .ok (.lreturn, 1) := by decide +kernel
set_option maxRecDepth 20000 in
theorem ggX5_closest_X5_areTwo : GoodIn wsX5_closest wsX5_areTwo := goodIn_r _ [5, 6, 7, 8, 4, 9, 10, 11, 12, 13, 64, 65, 66, 67, 68, 69, 70, 71, 72, 73, 74, 75, 76, 77, 78, 79, 80, 81, 82, 83, 84] (by decide +kernel) (by decide +kernel)
set_option maxRecDepth 20000 in
theorem gX5_closest_X5_areTwo : GoodIn wsX5_closest (wsV RX5 196 RX5 yX5_areTwo wsX5_areTwo) := goodIn_app (goodIn_of _ (by decide +kernel)) ggX5_closest_X5_areTwo
set_option maxRecDepth 20000 in
theorem ggX5_closest_X5_in : GoodIn wsX5_closest wsX5_in := goodIn_r _ [13] (by decide +kernel) (by decide +kernel)
set_option maxRecDepth 20000 in
theorem gX5_closest_X5_in : GoodIn wsX5_closest (va_wsS RX5 42 yX5_in wsX5_in) := goodIn_app (goodIn_of _ (by decide +kernel)) ggX5_closest_X5_in
set_option maxRecDepth 20000 in
theorem ggX5_closest_X5_closestOf : GoodIn wsX5_closest wsX5_closestOf := goodIn_r _ [17, 18, 19, 20, 21, 22, 23, 24, 4, 25, 26, 27, 28, 29, 10, 30, 31, 32, 33, 34, 35, 36, 37, 38, 39, 40, 41, 42, 43, 44, 45, 46, 47, 48, 49, 50, 51, 52, 53, 54, 55, 56, 57, 58, 64, 65, 66, 67, 68, 69, 70, 71, 72, 73, 74, 75, 76, 77, 78, 79, 80, 81, 82, 83, 84] (by decide +kernel) (by decide +kernel)
set_option maxRecDepth 20000 in
theorem gX5_closest_X5_closestOf : GoodIn wsX5_closest (wsV RX5 199 RX5 yX5_closestOf wsX5_closestOf) := goodIn_app (goodIn_of _ (by decide +kernel)) ggX5_closest_X5_closestOf
set_option maxRecDepth 20000 in
theorem ggX5_closest_X5_refuses : GoodIn wsX5_closest wsX5_refuses := goodIn_r _ [62, 63, 64, 65, 66, 67, 68, 69, 70, 71, 72, 73, 74, 75, 76, 77, 78, 79, 80, 81, 82, 83, 84] (by decide +kernel) (by decide +kernel)
set_option maxRecDepth 20000 in
theorem gX5_closest_X5_refuses : GoodIn wsX5_closest (wsV RX5 35 RX5 yX5_refuses wsX5_refuses) := goodIn_app (goodIn_of _ (by decide +kernel)) ggX5_closest_X5_refuses
theorem dX5_closest_0 : decode cX5_closest 0 = .ok (.aload_n 0, 1) := by decide +kernel
theorem dX5_closest_1 : decode cX5_closest 1 = .ok (.iload_n 1, 1) := by decide +kernel
theorem dX5_closest_2 : decode cX5_closest 2 = .ok (.iload_n 2, 1) := by decide +kernel
theorem dX5_closest_3 : decode cX5_closest 3 = .ok (.invokevirtual 196, 3) := by decide +kernel
theorem dX5_closest_6 : decode cX5_closest 6 = .ok (.ifCond .eq 22, 3) := by decide +kernel
theorem dX5_closest_9 : decode cX5_closest 9 = .ok (.iload_n 3, 1) := by decide +kernel
theorem dX5_closest_10 : decode cX5_closest 10 = .ok (.iconst 0, 1) := by decide +kernel
theorem dX5_closest_11 : decode cX5_closest 11 = .ok (.iconst 3, 1) := by decide +kernel
theorem dX5_closest_12 : decode cX5_closest 12 = .ok (.invokestatic 42, 3) := by decide +kernel
theorem dX5_closest_15 : decode cX5_closest 15 = .ok (.ifCond .eq 13, 3) := by decide +kernel
theorem dX5_closest_18 : decode cX5_closest 18 = .ok (.aload_n 0, 1) := by decide +kernel
theorem dX5_closest_19 : decode cX5_closest 19 = .ok (.iload_n 1, 1) := by decide +kernel
theorem dX5_closest_20 : decode cX5_closest 20 = .ok (.iload_n 2, 1) := by decide +kernel
theorem dX5_closest_21 : decode cX5_closest 21 = .ok (.iload_n 3, 1) := by decide +kernel
theorem dX5_closest_22 : decode cX5_closest 22 = .ok (.invokevirtual 199, 3) := by decide +kernel
theorem dX5_closest_25 : decode cX5_closest 25 = .ok (.goto 11, 3) := by decide +kernel
theorem dX5_closest_28 : decode cX5_closest 28 = .ok (.aload_n 0, 1) := by decide +kernel
theorem dX5_closest_29 : decode cX5_closest 29 = .ok (.sipush (-10002), 3) := by decide +kernel
theorem dX5_closest_32 : decode cX5_closest 32 = .ok (.invokevirtual 35, 3) := by decide +kernel
theorem dX5_closest_35 : decode cX5_closest 35 = .ok (.i2l, 1) := by decide +kernel
theorem dX5_closest_36 : decode cX5_closest 36 = .ok (.lreturn, 1) := by decide +kernel
set_option maxRecDepth 20000 in
theorem ggX5_risk_X5_areTwo : GoodIn wsX5_risk wsX5_areTwo := goodIn_r _ [5, 6, 7, 8, 4, 9, 10, 11, 12, 13, 68, 69, 70, 71, 72, 73, 74, 75, 76, 77, 78, 79, 80, 81, 82, 83, 84, 85, 86, 87, 88] (by decide +kernel) (by decide +kernel)
set_option maxRecDepth 20000 in
theorem gX5_risk_X5_areTwo : GoodIn wsX5_risk (wsV RX5 196 RX5 yX5_areTwo wsX5_areTwo) := goodIn_app (goodIn_of _ (by decide +kernel)) ggX5_risk_X5_areTwo
set_option maxRecDepth 20000 in
theorem ggX5_risk_X5_haveRisk : GoodIn wsX5_risk wsX5_haveRisk := goodIn_r _ [17, 18, 19, 20, 4, 21, 22, 23, 24, 25, 10, 26, 27, 28, 29, 30, 31, 32, 33, 34, 35, 36, 37, 38, 39, 40, 41, 42, 43, 44, 45, 46, 47, 48, 49, 50, 51, 52, 53, 54, 55, 56, 57, 58, 59, 60, 61, 62, 68, 69, 70, 71, 72, 73, 74, 75, 76, 77, 78, 79, 80, 81, 82, 83, 84, 85, 86, 87, 88] (by decide +kernel) (by decide +kernel)
set_option maxRecDepth 20000 in
theorem gX5_risk_X5_haveRisk : GoodIn wsX5_risk (wsV RX5 115 RX5 yX5_haveRisk wsX5_haveRisk) := goodIn_app (goodIn_of _ (by decide +kernel)) ggX5_risk_X5_haveRisk
set_option maxRecDepth 20000 in
theorem ggX5_risk_X5_refuses : GoodIn wsX5_risk wsX5_refuses := goodIn_r _ [66, 67, 68, 69, 70, 71, 72, 73, 74, 75, 76, 77, 78, 79, 80, 81, 82, 83, 84, 85, 86, 87, 88] (by decide +kernel) (by decide +kernel)
set_option maxRecDepth 20000 in
theorem gX5_risk_X5_refuses : GoodIn wsX5_risk (wsV RX5 35 RX5 yX5_refuses wsX5_refuses) := goodIn_app (goodIn_of _ (by decide +kernel)) ggX5_risk_X5_refuses
theorem dX5_risk_0 : decode cX5_risk 0 = .ok (.aload_n 0, 1) := by decide +kernel
theorem dX5_risk_1 : decode cX5_risk 1 = .ok (.iload_n 1, 1) := by decide +kernel
theorem dX5_risk_2 : decode cX5_risk 2 = .ok (.iload_n 2, 1) := by decide +kernel
theorem dX5_risk_3 : decode cX5_risk 3 = .ok (.invokevirtual 196, 3) := by decide +kernel
theorem dX5_risk_6 : decode cX5_risk 6 = .ok (.ifCond .eq 20, 3) := by decide +kernel
theorem dX5_risk_9 : decode cX5_risk 9 = .ok (.aload_n 0, 1) := by decide +kernel
theorem dX5_risk_10 : decode cX5_risk 10 = .ok (.iload_n 1, 1) := by decide +kernel
theorem dX5_risk_11 : decode cX5_risk 11 = .ok (.iload_n 2, 1) := by decide +kernel
theorem dX5_risk_12 : decode cX5_risk 12 = .ok (.invokevirtual 115, 3) := by decide +kernel
theorem dX5_risk_15 : decode cX5_risk 15 = .ok (.ifCond .eq 7, 3) := by decide +kernel
theorem dX5_risk_18 : decode cX5_risk 18 = .ok (.iconst 1, 1) := by decide +kernel
theorem dX5_risk_19 : decode cX5_risk 19 = .ok (.goto 14, 3) := by decide +kernel
theorem dX5_risk_22 : decode cX5_risk 22 = .ok (.iconst 0, 1) := by decide +kernel
theorem dX5_risk_23 : decode cX5_risk 23 = .ok (.goto 10, 3) := by decide +kernel
theorem dX5_risk_26 : decode cX5_risk 26 = .ok (.aload_n 0, 1) := by decide +kernel
theorem dX5_risk_27 : decode cX5_risk 27 = .ok (.sipush (-10002), 3) := by decide +kernel
theorem dX5_risk_30 : decode cX5_risk 30 = .ok (.invokevirtual 35, 3) := by decide +kernel
theorem dX5_risk_33 : decode cX5_risk 33 = .ok (.ireturn, 1) := by decide +kernel
set_option maxRecDepth 20000 in
theorem ggX5_sector_X5_areTwo : GoodIn wsX5_sector wsX5_areTwo := goodIn_r _ [5, 6, 7, 8, 4, 9, 10, 11, 12, 13, 51, 52, 53, 54, 55, 56, 57, 58, 59, 60, 61, 62, 63, 64, 65, 66, 67, 68, 69, 70, 71] (by decide +kernel) (by decide +kernel)
set_option maxRecDepth 20000 in
theorem gX5_sector_X5_areTwo : GoodIn wsX5_sector (wsV RX5 196 RX5 yX5_areTwo wsX5_areTwo) := goodIn_app (goodIn_of _ (by decide +kernel)) ggX5_sector_X5_areTwo
set_option maxRecDepth 20000 in
theorem ggX5_sector_X5_sectorOf : GoodIn wsX5_sector wsX5_sectorOf := goodIn_r _ [17, 18, 19, 20, 21, 22, 23, 24, 4, 25, 26, 27, 28, 29, 10, 30, 31, 32, 33, 34, 35, 36, 37, 38, 39, 40, 41, 42, 43, 44, 45, 51, 52, 53, 54, 55, 56, 57, 58, 59, 60, 61, 62, 63, 64, 65, 66, 67, 68, 69, 70, 71] (by decide +kernel) (by decide +kernel)
set_option maxRecDepth 20000 in
theorem gX5_sector_X5_sectorOf : GoodIn wsX5_sector (wsV RX5 119 RX5 yX5_sectorOf wsX5_sectorOf) := goodIn_app (goodIn_of _ (by decide +kernel)) ggX5_sector_X5_sectorOf
set_option maxRecDepth 20000 in
theorem ggX5_sector_X5_refuses : GoodIn wsX5_sector wsX5_refuses := goodIn_r _ [49, 50, 51, 52, 53, 54, 55, 56, 57, 58, 59, 60, 61, 62, 63, 64, 65, 66, 67, 68, 69, 70, 71] (by decide +kernel) (by decide +kernel)
set_option maxRecDepth 20000 in
theorem gX5_sector_X5_refuses : GoodIn wsX5_sector (wsV RX5 35 RX5 yX5_refuses wsX5_refuses) := goodIn_app (goodIn_of _ (by decide +kernel)) ggX5_sector_X5_refuses
theorem dX5_sector_0 : decode cX5_sector 0 = .ok (.aload_n 0, 1) := by decide +kernel
theorem dX5_sector_1 : decode cX5_sector 1 = .ok (.iload_n 1, 1) := by decide +kernel
theorem dX5_sector_2 : decode cX5_sector 2 = .ok (.iload_n 2, 1) := by decide +kernel
theorem dX5_sector_3 : decode cX5_sector 3 = .ok (.invokevirtual 196, 3) := by decide +kernel
theorem dX5_sector_6 : decode cX5_sector 6 = .ok (.ifCond .eq 12, 3) := by decide +kernel
theorem dX5_sector_9 : decode cX5_sector 9 = .ok (.aload_n 0, 1) := by decide +kernel
theorem dX5_sector_10 : decode cX5_sector 10 = .ok (.iload_n 1, 1) := by decide +kernel
theorem dX5_sector_11 : decode cX5_sector 11 = .ok (.iload_n 2, 1) := by decide +kernel
theorem dX5_sector_12 : decode cX5_sector 12 = .ok (.invokevirtual 119, 3) := by decide +kernel
theorem dX5_sector_15 : decode cX5_sector 15 = .ok (.goto 10, 3) := by decide +kernel
theorem dX5_sector_18 : decode cX5_sector 18 = .ok (.aload_n 0, 1) := by decide +kernel
theorem dX5_sector_19 : decode cX5_sector 19 = .ok (.sipush (-10002), 3) := by decide +kernel
theorem dX5_sector_22 : decode cX5_sector 22 = .ok (.invokevirtual 35, 3) := by decide +kernel
theorem dX5_sector_25 : decode cX5_sector 25 = .ok (.ireturn, 1) := by decide +kernel
set_option maxRecDepth 20000 in
theorem ggX5_table_X5_areTwo : GoodIn wsX5_table wsX5_areTwo := goodIn_r _ [5, 6, 7, 8, 4, 9, 10, 11, 12, 13, 78, 79, 80, 81, 82, 83, 84, 85, 86, 87, 88, 89, 90, 91, 92, 93, 94, 95, 96, 97, 98] (by decide +kernel) (by decide +kernel)
set_option maxRecDepth 20000 in
theorem gX5_table_X5_areTwo : GoodIn wsX5_table (wsV RX5 196 RX5 yX5_areTwo wsX5_areTwo) := goodIn_app (goodIn_of _ (by decide +kernel)) ggX5_table_X5_areTwo
set_option maxRecDepth 20000 in
theorem ggX5_table_X5_tableOf : GoodIn wsX5_table wsX5_tableOf := goodIn_r _ [17, 18, 19, 20, 4, 21, 22, 23, 24, 25, 26, 27, 28, 29, 10, 30, 31, 32, 33, 34, 35, 36, 37, 38, 39, 40, 41, 42, 43, 44, 45, 46, 47, 48, 49, 50, 51, 52, 53, 54, 55, 56, 57, 58, 59, 60, 61, 62, 63, 64, 65, 66, 67, 68, 69, 70, 71, 72, 78, 79, 80, 81, 82, 83, 84, 85, 86, 87, 88, 89, 90, 91, 92, 93, 94, 95, 96, 97, 98] (by decide +kernel) (by decide +kernel)
set_option maxRecDepth 20000 in
theorem gX5_table_X5_tableOf : GoodIn wsX5_table (wsV RX5 139 RX5 yX5_tableOf wsX5_tableOf) := goodIn_app (goodIn_of _ (by decide +kernel)) ggX5_table_X5_tableOf
set_option maxRecDepth 20000 in
theorem ggX5_table_X5_refuses : GoodIn wsX5_table wsX5_refuses := goodIn_r _ [76, 77, 78, 79, 80, 81, 82, 83, 84, 85, 86, 87, 88, 89, 90, 91, 92, 93, 94, 95, 96, 97, 98] (by decide +kernel) (by decide +kernel)
set_option maxRecDepth 20000 in
theorem gX5_table_X5_refuses : GoodIn wsX5_table (wsV RX5 35 RX5 yX5_refuses wsX5_refuses) := goodIn_app (goodIn_of _ (by decide +kernel)) ggX5_table_X5_refuses
theorem dX5_table_0 : decode cX5_table 0 = .ok (.aload_n 0, 1) := by decide +kernel
theorem dX5_table_1 : decode cX5_table 1 = .ok (.iload_n 1, 1) := by decide +kernel
theorem dX5_table_2 : decode cX5_table 2 = .ok (.iload_n 2, 1) := by decide +kernel
theorem dX5_table_3 : decode cX5_table 3 = .ok (.invokevirtual 196, 3) := by decide +kernel
theorem dX5_table_6 : decode cX5_table 6 = .ok (.ifCond .eq 12, 3) := by decide +kernel
theorem dX5_table_9 : decode cX5_table 9 = .ok (.aload_n 0, 1) := by decide +kernel
theorem dX5_table_10 : decode cX5_table 10 = .ok (.iload_n 1, 1) := by decide +kernel
theorem dX5_table_11 : decode cX5_table 11 = .ok (.iload_n 2, 1) := by decide +kernel
theorem dX5_table_12 : decode cX5_table 12 = .ok (.invokevirtual 139, 3) := by decide +kernel
theorem dX5_table_15 : decode cX5_table 15 = .ok (.goto 10, 3) := by decide +kernel
theorem dX5_table_18 : decode cX5_table 18 = .ok (.aload_n 0, 1) := by decide +kernel
theorem dX5_table_19 : decode cX5_table 19 = .ok (.sipush (-10002), 3) := by decide +kernel
theorem dX5_table_22 : decode cX5_table 22 = .ok (.invokevirtual 35, 3) := by decide +kernel
theorem dX5_table_25 : decode cX5_table 25 = .ok (.ireturn, 1) := by decide +kernel
set_option maxRecDepth 20000 in
theorem ggX5_duty_X5_isOther : GoodIn wsX5_duty wsX5_isOther := goodIn_r _ [5, 6, 7, 8, 4, 9, 10, 11, 12, 13, 23, 24, 25, 26, 27, 28, 29, 30, 31, 32, 33, 34, 35, 36, 37, 38, 39, 40, 41, 42, 43] (by decide +kernel) (by decide +kernel)
set_option maxRecDepth 20000 in
theorem gX5_duty_X5_isOther : GoodIn wsX5_duty (wsV RX5 136 RX5 yX5_isOther wsX5_isOther) := goodIn_app (goodIn_of _ (by decide +kernel)) ggX5_duty_X5_isOther
set_option maxRecDepth 20000 in
theorem ggX5_duty_X5_shipOf : GoodIn wsX5_duty wsX5_shipOf := goodIn_r _ [17, 10, 23, 24, 25, 26, 27, 28, 29, 30, 31, 32, 33, 34, 35, 36, 37, 38, 39, 40, 41, 42, 43] (by decide +kernel) (by decide +kernel)
set_option maxRecDepth 20000 in
theorem gX5_duty_X5_shipOf : GoodIn wsX5_duty (wsV RX5 53 RX5 yX5_shipOf wsX5_shipOf) := goodIn_app (goodIn_of _ (by decide +kernel)) ggX5_duty_X5_shipOf
set_option maxRecDepth 20000 in
theorem ggX5_duty_X5_refuses : GoodIn wsX5_duty wsX5_refuses := goodIn_r _ [21, 22, 23, 24, 25, 26, 27, 28, 29, 30, 31, 32, 33, 34, 35, 36, 37, 38, 39, 40, 41, 42, 43] (by decide +kernel) (by decide +kernel)
set_option maxRecDepth 20000 in
theorem gX5_duty_X5_refuses : GoodIn wsX5_duty (wsV RX5 35 RX5 yX5_refuses wsX5_refuses) := goodIn_app (goodIn_of _ (by decide +kernel)) ggX5_duty_X5_refuses
theorem dX5_duty_0 : decode cX5_duty 0 = .ok (.aload_n 0, 1) := by decide +kernel
theorem dX5_duty_1 : decode cX5_duty 1 = .ok (.iload_n 1, 1) := by decide +kernel
theorem dX5_duty_2 : decode cX5_duty 2 = .ok (.invokevirtual 136, 3) := by decide +kernel
theorem dX5_duty_5 : decode cX5_duty 5 = .ok (.ifCond .eq 12, 3) := by decide +kernel
theorem dX5_duty_8 : decode cX5_duty 8 = .ok (.aload_n 0, 1) := by decide +kernel
theorem dX5_duty_9 : decode cX5_duty 9 = .ok (.iload_n 1, 1) := by decide +kernel
theorem dX5_duty_10 : decode cX5_duty 10 = .ok (.iconst 4, 1) := by decide +kernel
theorem dX5_duty_11 : decode cX5_duty 11 = .ok (.invokevirtual 53, 3) := by decide +kernel
theorem dX5_duty_14 : decode cX5_duty 14 = .ok (.goto 10, 3) := by decide +kernel
theorem dX5_duty_17 : decode cX5_duty 17 = .ok (.aload_n 0, 1) := by decide +kernel
theorem dX5_duty_18 : decode cX5_duty 18 = .ok (.sipush (-10002), 3) := by decide +kernel
theorem dX5_duty_21 : decode cX5_duty 21 = .ok (.invokevirtual 35, 3) := by decide +kernel
theorem dX5_duty_24 : decode cX5_duty 24 = .ok (.ireturn, 1) := by decide +kernel
set_option maxRecDepth 20000 in
theorem ggX5_worst_X5_haveRisk : GoodIn wsX5_worst wsX5_haveRisk := goodIn_r _ [10, 11, 12, 13, 9, 14, 15, 16, 17, 18, 1, 19, 20, 21, 22, 23, 24, 25, 26, 27, 28, 29, 30, 31, 32, 33, 34, 35, 36, 4, 5, 2, 3, 37, 38, 39, 40, 41, 42, 43, 44, 45, 46, 47, 48, 49, 50, 51, 52, 53, 54, 55, 56, 57, 58, 59, 60, 61, 62, 63, 64, 65, 66, 67, 68, 69, 70, 71, 72] (by decide +kernel) (by decide +kernel)
set_option maxRecDepth 20000 in
theorem gX5_worst_X5_haveRisk : GoodIn wsX5_worst (wsV RX5 115 RX5 yX5_haveRisk wsX5_haveRisk) := goodIn_app (goodIn_of _ (by decide +kernel)) ggX5_worst_X5_haveRisk
theorem dX5_worst_0 : decode cX5_worst 0 = .ok (.sipush (-10001), 3) := by decide +kernel
theorem dX5_worst_3 : decode cX5_worst 3 = .ok (.istore_n 1, 1) := by decide +kernel
theorem dX5_worst_4 : decode cX5_worst 4 = .ok (.lconst 0, 1) := by decide +kernel
theorem dX5_worst_5 : decode cX5_worst 5 = .ok (.lstore_n 2, 1) := by decide +kernel
theorem dX5_worst_6 : decode cX5_worst 6 = .ok (.lconst 1, 1) := by decide +kernel
theorem dX5_worst_7 : decode cX5_worst 7 = .ok (.lstore 4, 2) := by decide +kernel
theorem dX5_worst_9 : decode cX5_worst 9 = .ok (.lconst 0, 1) := by decide +kernel
theorem dX5_worst_10 : decode cX5_worst 10 = .ok (.lstore 6, 2) := by decide +kernel
theorem dX5_worst_12 : decode cX5_worst 12 = .ok (.lconst 1, 1) := by decide +kernel
theorem dX5_worst_13 : decode cX5_worst 13 = .ok (.lstore 8, 2) := by decide +kernel
theorem dX5_worst_15 : decode cX5_worst 15 = .ok (.iconst 1, 1) := by decide +kernel
theorem dX5_worst_16 : decode cX5_worst 16 = .ok (.istore 10, 2) := by decide +kernel
theorem dX5_worst_18 : decode cX5_worst 18 = .ok (.iload 10, 2) := by decide +kernel
theorem dX5_worst_20 : decode cX5_worst 20 = .ok (.aload_n 0, 1) := by decide +kernel
theorem dX5_worst_21 : decode cX5_worst 21 = .ok (.getfield 7, 3) := by decide +kernel
theorem dX5_worst_24 : decode cX5_worst 24 = .ok (.iconst 0, 1) := by decide +kernel
theorem dX5_worst_25 : decode cX5_worst 25 = .ok (.iaload, 1) := by decide +kernel
theorem dX5_worst_26 : decode cX5_worst 26 = .ok (.if_icmp .ge 106, 3) := by decide +kernel
theorem dX5_worst_29 : decode cX5_worst 29 = .ok (.aload_n 0, 1) := by decide +kernel
theorem dX5_worst_30 : decode cX5_worst 30 = .ok (.iconst 0, 1) := by decide +kernel
theorem dX5_worst_31 : decode cX5_worst 31 = .ok (.iload 10, 2) := by decide +kernel
theorem dX5_worst_33 : decode cX5_worst 33 = .ok (.invokevirtual 115, 3) := by decide +kernel
theorem dX5_worst_36 : decode cX5_worst 36 = .ok (.ifCond .eq 90, 3) := by decide +kernel
theorem dX5_worst_39 : decode cX5_worst 39 = .ok (.aload_n 0, 1) := by decide +kernel
theorem dX5_worst_40 : decode cX5_worst 40 = .ok (.getfield 81, 3) := by decide +kernel
theorem dX5_worst_43 : decode cX5_worst 43 = .ok (.lload 4, 2) := by decide +kernel
theorem dX5_worst_45 : decode cX5_worst 45 = .ok (.lmul, 1) := by decide +kernel
theorem dX5_worst_46 : decode cX5_worst 46 = .ok (.lload_n 2, 1) := by decide +kernel
theorem dX5_worst_47 : decode cX5_worst 47 = .ok (.aload_n 0, 1) := by decide +kernel
theorem dX5_worst_48 : decode cX5_worst 48 = .ok (.getfield 84, 3) := by decide +kernel
theorem dX5_worst_51 : decode cX5_worst 51 = .ok (.lmul, 1) := by decide +kernel
theorem dX5_worst_52 : decode cX5_worst 52 = .ok (.lsub, 1) := by decide +kernel
theorem dX5_worst_53 : decode cX5_worst 53 = .ok (.lstore 11, 2) := by decide +kernel
theorem dX5_worst_55 : decode cX5_worst 55 = .ok (.aload_n 0, 1) := by decide +kernel
theorem dX5_worst_56 : decode cX5_worst 56 = .ok (.getfield 90, 3) := by decide +kernel
theorem dX5_worst_59 : decode cX5_worst 59 = .ok (.lload 8, 2) := by decide +kernel
theorem dX5_worst_61 : decode cX5_worst 61 = .ok (.lmul, 1) := by decide +kernel
theorem dX5_worst_62 : decode cX5_worst 62 = .ok (.lload 6, 2) := by decide +kernel
theorem dX5_worst_64 : decode cX5_worst 64 = .ok (.aload_n 0, 1) := by decide +kernel
theorem dX5_worst_65 : decode cX5_worst 65 = .ok (.getfield 93, 3) := by decide +kernel
theorem dX5_worst_68 : decode cX5_worst 68 = .ok (.lmul, 1) := by decide +kernel
theorem dX5_worst_69 : decode cX5_worst 69 = .ok (.lsub, 1) := by decide +kernel
theorem dX5_worst_70 : decode cX5_worst 70 = .ok (.lstore 13, 2) := by decide +kernel
end
section
theorem dX5_worst_72 : decode cX5_worst 72 = .ok (.iload_n 1, 1) := by decide +kernel
theorem dX5_worst_73 : decode cX5_worst 73 = .ok (.sipush (-10001), 3) := by decide +kernel
theorem dX5_worst_76 : decode cX5_worst 76 = .ok (.if_icmp .eq 24, 3) := by decide +kernel
theorem dX5_worst_79 : decode cX5_worst 79 = .ok (.lload 11, 2) := by decide +kernel
theorem dX5_worst_81 : decode cX5_worst 81 = .ok (.lconst 0, 1) := by decide +kernel
theorem dX5_worst_82 : decode cX5_worst 82 = .ok (.lcmp, 1) := by decide +kernel
theorem dX5_worst_83 : decode cX5_worst 83 = .ok (.ifCond .lt 17, 3) := by decide +kernel
theorem dX5_worst_86 : decode cX5_worst 86 = .ok (.lload 11, 2) := by decide +kernel
theorem dX5_worst_88 : decode cX5_worst 88 = .ok (.lconst 0, 1) := by decide +kernel
theorem dX5_worst_89 : decode cX5_worst 89 = .ok (.lcmp, 1) := by decide +kernel
theorem dX5_worst_90 : decode cX5_worst 90 = .ok (.ifCond .ne 36, 3) := by decide +kernel
theorem dX5_worst_93 : decode cX5_worst 93 = .ok (.lload 13, 2) := by decide +kernel
theorem dX5_worst_95 : decode cX5_worst 95 = .ok (.lconst 0, 1) := by decide +kernel
theorem dX5_worst_96 : decode cX5_worst 96 = .ok (.lcmp, 1) := by decide +kernel
theorem dX5_worst_97 : decode cX5_worst 97 = .ok (.ifCond .ge 29, 3) := by decide +kernel
theorem dX5_worst_100 : decode cX5_worst 100 = .ok (.iload 10, 2) := by decide +kernel
theorem dX5_worst_102 : decode cX5_worst 102 = .ok (.istore_n 1, 1) := by decide +kernel
theorem dX5_worst_103 : decode cX5_worst 103 = .ok (.aload_n 0, 1) := by decide +kernel
theorem dX5_worst_104 : decode cX5_worst 104 = .ok (.getfield 81, 3) := by decide +kernel
theorem dX5_worst_107 : decode cX5_worst 107 = .ok (.lstore_n 2, 1) := by decide +kernel
theorem dX5_worst_108 : decode cX5_worst 108 = .ok (.aload_n 0, 1) := by decide +kernel
theorem dX5_worst_109 : decode cX5_worst 109 = .ok (.getfield 84, 3) := by decide +kernel
theorem dX5_worst_112 : decode cX5_worst 112 = .ok (.lstore 4, 2) := by decide +kernel
theorem dX5_worst_114 : decode cX5_worst 114 = .ok (.aload_n 0, 1) := by decide +kernel
theorem dX5_worst_115 : decode cX5_worst 115 = .ok (.getfield 90, 3) := by decide +kernel
theorem dX5_worst_118 : decode cX5_worst 118 = .ok (.lstore 6, 2) := by decide +kernel
theorem dX5_worst_120 : decode cX5_worst 120 = .ok (.aload_n 0, 1) := by decide +kernel
theorem dX5_worst_121 : decode cX5_worst 121 = .ok (.getfield 93, 3) := by decide +kernel
theorem dX5_worst_124 : decode cX5_worst 124 = .ok (.lstore 8, 2) := by decide +kernel
theorem dX5_worst_126 : decode cX5_worst 126 = .ok (.iinc 10 1, 3) := by decide +kernel
theorem dX5_worst_129 : decode cX5_worst 129 = .ok (.goto (-111), 3) := by decide +kernel
theorem dX5_worst_132 : decode cX5_worst 132 = .ok (.iload_n 1, 1) := by decide +kernel
theorem dX5_worst_133 : decode cX5_worst 133 = .ok (.ireturn, 1) := by decide +kernel
set_option maxRecDepth 20000 in
theorem ggX5_clear_X5_isShip : GoodIn wsX5_clear wsX5_isShip := goodIn_r _ [5, 6, 7, 8, 4, 9, 63, 64, 65, 66, 67, 68, 69, 70, 71, 72, 73, 74, 75, 76, 77, 78, 79, 80, 81, 82, 83] (by decide +kernel) (by decide +kernel)
set_option maxRecDepth 20000 in
theorem gX5_clear_X5_isShip : GoodIn wsX5_clear (wsV RX5 46 RX5 yX5_isShip wsX5_isShip) := goodIn_app (goodIn_of _ (by decide +kernel)) ggX5_clear_X5_isShip
set_option maxRecDepth 20000 in
theorem ggX5_clear_X5_isCourse : GoodIn wsX5_clear wsX5_isCourse := goodIn_r _ [12, 7, 8, 4, 9] (by decide +kernel) (by decide +kernel)
set_option maxRecDepth 20000 in
theorem gX5_clear_X5_isCourse : GoodIn wsX5_clear (va_wsS RX5 125 yX5_isCourse wsX5_isCourse) := goodIn_app (goodIn_of _ (by decide +kernel)) ggX5_clear_X5_isCourse
set_option maxRecDepth 20000 in
theorem ggX5_clear_X5_isClear : GoodIn wsX5_clear wsX5_isClear := goodIn_r _ [16, 6, 17, 18, 19, 4, 20, 21, 22, 23, 24, 25, 26, 27, 28, 29, 30, 31, 32, 33, 34, 35, 36, 37, 38, 39, 40, 41, 42, 43, 44, 45, 46, 47, 48, 49, 50, 51, 52, 53, 54, 55, 56, 57, 63, 64, 65, 66, 67, 68, 69, 70, 71, 72, 73, 74, 75, 76, 77, 78, 79, 80, 81, 82, 83] (by decide +kernel) (by decide +kernel)
set_option maxRecDepth 20000 in
theorem gX5_clear_X5_isClear : GoodIn wsX5_clear (wsV RX5 158 RX5 yX5_isClear wsX5_isClear) := goodIn_app (goodIn_of _ (by decide +kernel)) ggX5_clear_X5_isClear
set_option maxRecDepth 20000 in
theorem ggX5_clear_X5_refuses : GoodIn wsX5_clear wsX5_refuses := goodIn_r _ [61, 62, 63, 64, 65, 66, 67, 68, 69, 70, 71, 72, 73, 74, 75, 76, 77, 78, 79, 80, 81, 82, 83] (by decide +kernel) (by decide +kernel)
set_option maxRecDepth 20000 in
theorem gX5_clear_X5_refuses : GoodIn wsX5_clear (wsV RX5 35 RX5 yX5_refuses wsX5_refuses) := goodIn_app (goodIn_of _ (by decide +kernel)) ggX5_clear_X5_refuses
theorem dX5_clear_0 : decode cX5_clear 0 = .ok (.aload_n 0, 1) := by decide +kernel
theorem dX5_clear_1 : decode cX5_clear 1 = .ok (.iload_n 1, 1) := by decide +kernel
theorem dX5_clear_2 : decode cX5_clear 2 = .ok (.invokevirtual 46, 3) := by decide +kernel
theorem dX5_clear_5 : decode cX5_clear 5 = .ok (.ifCond .eq 29, 3) := by decide +kernel
theorem dX5_clear_8 : decode cX5_clear 8 = .ok (.iload_n 2, 1) := by decide +kernel
theorem dX5_clear_9 : decode cX5_clear 9 = .ok (.iload_n 3, 1) := by decide +kernel
theorem dX5_clear_10 : decode cX5_clear 10 = .ok (.invokestatic 125, 3) := by decide +kernel
theorem dX5_clear_13 : decode cX5_clear 13 = .ok (.ifCond .eq 21, 3) := by decide +kernel
theorem dX5_clear_16 : decode cX5_clear 16 = .ok (.aload_n 0, 1) := by decide +kernel
theorem dX5_clear_17 : decode cX5_clear 17 = .ok (.iload_n 1, 1) := by decide +kernel
theorem dX5_clear_18 : decode cX5_clear 18 = .ok (.iload_n 2, 1) := by decide +kernel
theorem dX5_clear_19 : decode cX5_clear 19 = .ok (.iload_n 3, 1) := by decide +kernel
theorem dX5_clear_20 : decode cX5_clear 20 = .ok (.invokevirtual 158, 3) := by decide +kernel
theorem dX5_clear_23 : decode cX5_clear 23 = .ok (.ifCond .eq 7, 3) := by decide +kernel
theorem dX5_clear_26 : decode cX5_clear 26 = .ok (.iconst 1, 1) := by decide +kernel
theorem dX5_clear_27 : decode cX5_clear 27 = .ok (.goto 14, 3) := by decide +kernel
theorem dX5_clear_30 : decode cX5_clear 30 = .ok (.iconst 0, 1) := by decide +kernel
theorem dX5_clear_31 : decode cX5_clear 31 = .ok (.goto 10, 3) := by decide +kernel
theorem dX5_clear_34 : decode cX5_clear 34 = .ok (.aload_n 0, 1) := by decide +kernel
theorem dX5_clear_35 : decode cX5_clear 35 = .ok (.sipush (-10002), 3) := by decide +kernel
theorem dX5_clear_38 : decode cX5_clear 38 = .ok (.invokevirtual 35, 3) := by decide +kernel
theorem dX5_clear_41 : decode cX5_clear 41 = .ok (.ireturn, 1) := by decide +kernel
set_option maxRecDepth 20000 in
theorem ggX5_blockedBy_X5_shipOf : GoodIn wsX5_blockedBy wsX5_shipOf := goodIn_r _ [5, 6, 44, 45, 46, 47, 48, 49, 50, 51, 52, 53, 54, 55, 56, 57, 58, 59, 60, 61, 62, 63, 64] (by decide +kernel) (by decide +kernel)
set_option maxRecDepth 20000 in
theorem gX5_blockedBy_X5_shipOf : GoodIn wsX5_blockedBy (wsV RX5 53 RX5 yX5_shipOf wsX5_shipOf) := goodIn_app (goodIn_of _ (by decide +kernel)) ggX5_blockedBy_X5_shipOf
set_option maxRecDepth 20000 in
theorem ggX5_blockedBy_X5_lays : GoodIn wsX5_blockedBy wsX5_lays := goodIn_r _ [10, 11, 12, 13, 14, 1, 2, 3, 4, 5, 6, 15, 16, 17, 18, 19, 20, 44, 45, 46, 47, 48, 49, 50, 51, 52, 53, 54, 55, 56, 57, 58, 59, 60, 61, 62, 63, 64] (by decide +kernel) (by decide +kernel)
set_option maxRecDepth 20000 in
theorem gX5_blockedBy_X5_lays : GoodIn wsX5_blockedBy (wsV RX5 73 RX5 yX5_lays wsX5_lays) := goodIn_app (goodIn_of _ (by decide +kernel)) ggX5_blockedBy_X5_lays
set_option maxRecDepth 20000 in
theorem ggX5_blockedBy_X5_isRisk : GoodIn wsX5_blockedBy wsX5_isRisk := goodIn_r _ [24, 6, 25, 26, 27, 28, 29, 30, 31, 4, 32, 13, 14, 11, 12, 33, 34, 35, 36, 37, 38, 39, 40, 41, 42, 43, 44, 45, 46, 47, 48, 49, 50, 51, 52, 53, 54, 55, 56, 57, 58, 59, 60, 61, 62, 63, 64] (by decide +kernel) (by decide +kernel)
set_option maxRecDepth 20000 in
theorem gX5_blockedBy_X5_isRisk : GoodIn wsX5_blockedBy (wsV RX5 107 RX5 yX5_isRisk wsX5_isRisk) := goodIn_app (goodIn_of _ (by decide +kernel)) ggX5_blockedBy_X5_isRisk
theorem dX5_blockedBy_0 : decode cX5_blockedBy 0 = .ok (.iconst 0, 1) := by decide +kernel
theorem dX5_blockedBy_1 : decode cX5_blockedBy 1 = .ok (.istore_n 2, 1) := by decide +kernel
theorem dX5_blockedBy_2 : decode cX5_blockedBy 2 = .ok (.iconst 0, 1) := by decide +kernel
theorem dX5_blockedBy_3 : decode cX5_blockedBy 3 = .ok (.istore_n 3, 1) := by decide +kernel
theorem dX5_blockedBy_4 : decode cX5_blockedBy 4 = .ok (.iload_n 3, 1) := by decide +kernel
theorem dX5_blockedBy_5 : decode cX5_blockedBy 5 = .ok (.bipush 16, 2) := by decide +kernel
theorem dX5_blockedBy_7 : decode cX5_blockedBy 7 = .ok (.if_icmp .ge 39, 3) := by decide +kernel
theorem dX5_blockedBy_10 : decode cX5_blockedBy 10 = .ok (.aload_n 0, 1) := by decide +kernel
theorem dX5_blockedBy_11 : decode cX5_blockedBy 11 = .ok (.iconst 0, 1) := by decide +kernel
theorem dX5_blockedBy_12 : decode cX5_blockedBy 12 = .ok (.iload_n 1, 1) := by decide +kernel
theorem dX5_blockedBy_13 : decode cX5_blockedBy 13 = .ok (.iload_n 3, 1) := by decide +kernel
theorem dX5_blockedBy_14 : decode cX5_blockedBy 14 = .ok (.aload_n 0, 1) := by decide +kernel
theorem dX5_blockedBy_15 : decode cX5_blockedBy 15 = .ok (.iconst 0, 1) := by decide +kernel
theorem dX5_blockedBy_16 : decode cX5_blockedBy 16 = .ok (.iconst 3, 1) := by decide +kernel
theorem dX5_blockedBy_17 : decode cX5_blockedBy 17 = .ok (.invokevirtual 53, 3) := by decide +kernel
theorem dX5_blockedBy_20 : decode cX5_blockedBy 20 = .ok (.invokevirtual 73, 3) := by decide +kernel
theorem dX5_blockedBy_23 : decode cX5_blockedBy 23 = .ok (.iload_n 2, 1) := by decide +kernel
theorem dX5_blockedBy_24 : decode cX5_blockedBy 24 = .ok (.aload_n 0, 1) := by decide +kernel
theorem dX5_blockedBy_25 : decode cX5_blockedBy 25 = .ok (.invokevirtual 107, 3) := by decide +kernel
theorem dX5_blockedBy_28 : decode cX5_blockedBy 28 = .ok (.ifCond .eq 9, 3) := by decide +kernel
theorem dX5_blockedBy_31 : decode cX5_blockedBy 31 = .ok (.iconst 1, 1) := by decide +kernel
theorem dX5_blockedBy_32 : decode cX5_blockedBy 32 = .ok (.iload_n 3, 1) := by decide +kernel
theorem dX5_blockedBy_33 : decode cX5_blockedBy 33 = .ok (.ishl, 1) := by decide +kernel
theorem dX5_blockedBy_34 : decode cX5_blockedBy 34 = .ok (.goto 4, 3) := by decide +kernel
theorem dX5_blockedBy_37 : decode cX5_blockedBy 37 = .ok (.iconst 0, 1) := by decide +kernel
theorem dX5_blockedBy_38 : decode cX5_blockedBy 38 = .ok (.ior, 1) := by decide +kernel
theorem dX5_blockedBy_39 : decode cX5_blockedBy 39 = .ok (.istore_n 2, 1) := by decide +kernel
theorem dX5_blockedBy_40 : decode cX5_blockedBy 40 = .ok (.iinc 3 1, 3) := by decide +kernel
theorem dX5_blockedBy_43 : decode cX5_blockedBy 43 = .ok (.goto (-39), 3) := by decide +kernel
theorem dX5_blockedBy_46 : decode cX5_blockedBy 46 = .ok (.iload_n 2, 1) := by decide +kernel
theorem dX5_blockedBy_47 : decode cX5_blockedBy 47 = .ok (.ireturn, 1) := by decide +kernel
set_option maxRecDepth 20000 in
theorem ggX5_blocked_X5_isOther : GoodIn wsX5_blocked wsX5_isOther := goodIn_r _ [5, 6, 7, 8, 4, 9, 10, 11, 12, 13, 64, 65, 66, 67, 68, 69, 70, 71, 72, 73, 74, 75, 76, 77, 78, 79, 80, 81, 82, 83, 84] (by decide +kernel) (by decide +kernel)
set_option maxRecDepth 20000 in
theorem gX5_blocked_X5_isOther : GoodIn wsX5_blocked (wsV RX5 136 RX5 yX5_isOther wsX5_isOther) := goodIn_app (goodIn_of _ (by decide +kernel)) ggX5_blocked_X5_isOther
set_option maxRecDepth 20000 in
theorem ggX5_blocked_X5_blockedBy : GoodIn wsX5_blocked wsX5_blockedBy := goodIn_r _ [17, 18, 19, 20, 4, 21, 10, 22, 23, 24, 25, 26, 27, 28, 29, 30, 31, 32, 33, 34, 35, 36, 37, 38, 39, 40, 41, 42, 43, 44, 45, 46, 47, 48, 49, 50, 51, 52, 53, 54, 55, 56, 57, 58, 64, 65, 66, 67, 68, 69, 70, 71, 72, 73, 74, 75, 76, 77, 78, 79, 80, 81, 82, 83, 84] (by decide +kernel) (by decide +kernel)
set_option maxRecDepth 20000 in
theorem gX5_blocked_X5_blockedBy : GoodIn wsX5_blocked (wsV RX5 203 RX5 yX5_blockedBy wsX5_blockedBy) := goodIn_app (goodIn_of _ (by decide +kernel)) ggX5_blocked_X5_blockedBy
set_option maxRecDepth 20000 in
theorem ggX5_blocked_X5_refuses : GoodIn wsX5_blocked wsX5_refuses := goodIn_r _ [62, 63, 64, 65, 66, 67, 68, 69, 70, 71, 72, 73, 74, 75, 76, 77, 78, 79, 80, 81, 82, 83, 84] (by decide +kernel) (by decide +kernel)
set_option maxRecDepth 20000 in
theorem gX5_blocked_X5_refuses : GoodIn wsX5_blocked (wsV RX5 35 RX5 yX5_refuses wsX5_refuses) := goodIn_app (goodIn_of _ (by decide +kernel)) ggX5_blocked_X5_refuses
theorem dX5_blocked_0 : decode cX5_blocked 0 = .ok (.aload_n 0, 1) := by decide +kernel
theorem dX5_blocked_1 : decode cX5_blocked 1 = .ok (.iload_n 1, 1) := by decide +kernel
theorem dX5_blocked_2 : decode cX5_blocked 2 = .ok (.invokevirtual 136, 3) := by decide +kernel
theorem dX5_blocked_5 : decode cX5_blocked 5 = .ok (.ifCond .eq 11, 3) := by decide +kernel
theorem dX5_blocked_8 : decode cX5_blocked 8 = .ok (.aload_n 0, 1) := by decide +kernel
theorem dX5_blocked_9 : decode cX5_blocked 9 = .ok (.iload_n 1, 1) := by decide +kernel
theorem dX5_blocked_10 : decode cX5_blocked 10 = .ok (.invokevirtual 203, 3) := by decide +kernel
theorem dX5_blocked_13 : decode cX5_blocked 13 = .ok (.goto 10, 3) := by decide +kernel
theorem dX5_blocked_16 : decode cX5_blocked 16 = .ok (.aload_n 0, 1) := by decide +kernel
theorem dX5_blocked_17 : decode cX5_blocked 17 = .ok (.sipush (-10002), 3) := by decide +kernel
theorem dX5_blocked_20 : decode cX5_blocked 20 = .ok (.invokevirtual 35, 3) := by decide +kernel
theorem dX5_blocked_23 : decode cX5_blocked 23 = .ok (.ireturn, 1) := by decide +kernel
set_option maxRecDepth 20000 in
theorem ggX5_advice_X5_isShip : GoodIn wsX5_advice wsX5_isShip := goodIn_r _ [5, 6, 7, 8, 4, 9, 86, 87, 88, 89, 90, 91, 92, 93, 94, 95, 96, 97, 98, 99, 100, 101, 102, 103, 104, 105, 106] (by decide +kernel) (by decide +kernel)
set_option maxRecDepth 20000 in
theorem gX5_advice_X5_isShip : GoodIn wsX5_advice (wsV RX5 46 RX5 yX5_isShip wsX5_isShip) := goodIn_app (goodIn_of _ (by decide +kernel)) ggX5_advice_X5_isShip
set_option maxRecDepth 20000 in
theorem ggX5_advice_X5_adviceFor : GoodIn wsX5_advice wsX5_adviceFor := goodIn_r _ [13, 14, 15, 16, 4, 17, 6, 18, 19, 20, 21, 22, 23, 24, 25, 26, 27, 28, 29, 30, 31, 32, 33, 34, 35, 36, 37, 38, 39, 40, 41, 42, 43, 44, 45, 46, 47, 48, 49, 50, 51, 52, 53, 54, 55, 56, 57, 58, 59, 60, 61, 62, 63, 64, 65, 66, 67, 68, 69, 70, 71, 72, 73, 74, 75, 76, 77, 78, 79, 80, 86, 87, 88, 89, 90, 91, 92, 93, 94, 95, 96, 97, 98, 99, 100, 101, 102, 103, 104, 105, 106] (by decide +kernel) (by decide +kernel)
set_option maxRecDepth 20000 in
theorem gX5_advice_X5_adviceFor : GoodIn wsX5_advice (wsV RX5 161 RX5 yX5_adviceFor wsX5_adviceFor) := goodIn_app (goodIn_of _ (by decide +kernel)) ggX5_advice_X5_adviceFor
set_option maxRecDepth 20000 in
theorem ggX5_advice_X5_refuses : GoodIn wsX5_advice wsX5_refuses := goodIn_r _ [84, 85, 86, 87, 88, 89, 90, 91, 92, 93, 94, 95, 96, 97, 98, 99, 100, 101, 102, 103, 104, 105, 106] (by decide +kernel) (by decide +kernel)
set_option maxRecDepth 20000 in
theorem gX5_advice_X5_refuses : GoodIn wsX5_advice (wsV RX5 35 RX5 yX5_refuses wsX5_refuses) := goodIn_app (goodIn_of _ (by decide +kernel)) ggX5_advice_X5_refuses
theorem dX5_advice_0 : decode cX5_advice 0 = .ok (.aload_n 0, 1) := by decide +kernel
theorem dX5_advice_1 : decode cX5_advice 1 = .ok (.iload_n 1, 1) := by decide +kernel
theorem dX5_advice_2 : decode cX5_advice 2 = .ok (.invokevirtual 46, 3) := by decide +kernel
theorem dX5_advice_5 : decode cX5_advice 5 = .ok (.ifCond .eq 11, 3) := by decide +kernel
theorem dX5_advice_8 : decode cX5_advice 8 = .ok (.aload_n 0, 1) := by decide +kernel
theorem dX5_advice_9 : decode cX5_advice 9 = .ok (.iload_n 1, 1) := by decide +kernel
theorem dX5_advice_10 : decode cX5_advice 10 = .ok (.invokevirtual 161, 3) := by decide +kernel
theorem dX5_advice_13 : decode cX5_advice 13 = .ok (.goto 10, 3) := by decide +kernel
theorem dX5_advice_16 : decode cX5_advice 16 = .ok (.aload_n 0, 1) := by decide +kernel
theorem dX5_advice_17 : decode cX5_advice 17 = .ok (.sipush (-10002), 3) := by decide +kernel
theorem dX5_advice_20 : decode cX5_advice 20 = .ok (.invokevirtual 35, 3) := by decide +kernel
theorem dX5_advice_23 : decode cX5_advice 23 = .ok (.ireturn, 1) := by decide +kernel
theorem dX5_countOf_0 : decode cX5_countOf 0 = .ok (.iload_n 1, 1) := by decide +kernel
theorem dX5_countOf_1 : decode cX5_countOf 1 = .ok (.ifCond .ne 14, 3) := by decide +kernel
theorem dX5_countOf_4 : decode cX5_countOf 4 = .ok (.aload_n 0, 1) := by decide +kernel
theorem dX5_countOf_5 : decode cX5_countOf 5 = .ok (.getfield 7, 3) := by decide +kernel
theorem dX5_countOf_8 : decode cX5_countOf 8 = .ok (.iconst 0, 1) := by decide +kernel
theorem dX5_countOf_9 : decode cX5_countOf 9 = .ok (.iaload, 1) := by decide +kernel
theorem dX5_countOf_10 : decode cX5_countOf 10 = .ok (.iconst 1, 1) := by decide +kernel
theorem dX5_countOf_11 : decode cX5_countOf 11 = .ok (.isub, 1) := by decide +kernel
theorem dX5_countOf_12 : decode cX5_countOf 12 = .ok (.goto 9, 3) := by decide +kernel
theorem dX5_countOf_15 : decode cX5_countOf 15 = .ok (.aload_n 0, 1) := by decide +kernel
theorem dX5_countOf_16 : decode cX5_countOf 16 = .ok (.getfield 7, 3) := by decide +kernel
theorem dX5_countOf_19 : decode cX5_countOf 19 = .ok (.iload_n 1, 1) := by decide +kernel
theorem dX5_countOf_20 : decode cX5_countOf 20 = .ok (.iaload, 1) := by decide +kernel
theorem dX5_countOf_21 : decode cX5_countOf 21 = .ok (.ireturn, 1) := by decide +kernel
set_option maxRecDepth 20000 in
theorem ggX5_count_X5_in : GoodIn wsX5_count wsX5_in := goodIn_r _ [4] (by decide +kernel) (by decide +kernel)
set_option maxRecDepth 20000 in
theorem gX5_count_X5_in : GoodIn wsX5_count (va_wsS RX5 42 yX5_in wsX5_in) := goodIn_app (goodIn_of _ (by decide +kernel)) ggX5_count_X5_in
set_option maxRecDepth 20000 in
theorem ggX5_count_X5_countOf : GoodIn wsX5_count wsX5_countOf := goodIn_r _ [8, 9, 15, 16, 17, 18, 19, 20, 21, 22, 23, 24, 25, 26, 27, 28, 29, 30, 31, 32, 33, 34, 35] (by decide +kernel) (by decide +kernel)
set_option maxRecDepth 20000 in
theorem gX5_count_X5_countOf : GoodIn wsX5_count (wsV RX5 206 RX5 yX5_countOf wsX5_countOf) := goodIn_app (goodIn_of _ (by decide +kernel)) ggX5_count_X5_countOf
set_option maxRecDepth 20000 in
theorem ggX5_count_X5_refuses : GoodIn wsX5_count wsX5_refuses := goodIn_r _ [13, 14, 15, 16, 17, 18, 19, 20, 21, 22, 23, 24, 25, 26, 27, 28, 29, 30, 31, 32, 33, 34, 35] (by decide +kernel) (by decide +kernel)
set_option maxRecDepth 20000 in
theorem gX5_count_X5_refuses : GoodIn wsX5_count (wsV RX5 35 RX5 yX5_refuses wsX5_refuses) := goodIn_app (goodIn_of _ (by decide +kernel)) ggX5_count_X5_refuses
theorem dX5_count_0 : decode cX5_count 0 = .ok (.iload_n 1, 1) := by decide +kernel
theorem dX5_count_1 : decode cX5_count 1 = .ok (.iconst 0, 1) := by decide +kernel
theorem dX5_count_2 : decode cX5_count 2 = .ok (.iconst 3, 1) := by decide +kernel
theorem dX5_count_3 : decode cX5_count 3 = .ok (.invokestatic 42, 3) := by decide +kernel
theorem dX5_count_6 : decode cX5_count 6 = .ok (.ifCond .eq 11, 3) := by decide +kernel
theorem dX5_count_9 : decode cX5_count 9 = .ok (.aload_n 0, 1) := by decide +kernel
theorem dX5_count_10 : decode cX5_count 10 = .ok (.iload_n 1, 1) := by decide +kernel
theorem dX5_count_11 : decode cX5_count 11 = .ok (.invokevirtual 206, 3) := by decide +kernel
theorem dX5_count_14 : decode cX5_count 14 = .ok (.goto 10, 3) := by decide +kernel
theorem dX5_count_17 : decode cX5_count 17 = .ok (.aload_n 0, 1) := by decide +kernel
theorem dX5_count_18 : decode cX5_count 18 = .ok (.sipush (-10002), 3) := by decide +kernel
theorem dX5_count_21 : decode cX5_count 21 = .ok (.invokevirtual 35, 3) := by decide +kernel
theorem dX5_count_24 : decode cX5_count 24 = .ok (.ireturn, 1) := by decide +kernel
set_option maxRecDepth 20000 in
theorem ggX5_type_X5_in : GoodIn wsX5_type wsX5_in := goodIn_r _ [6] (by decide +kernel) (by decide +kernel)
set_option maxRecDepth 20000 in
theorem gX5_type_X5_in : GoodIn wsX5_type (va_wsS RX5 42 yX5_in wsX5_in) := goodIn_app (goodIn_of _ (by decide +kernel)) ggX5_type_X5_in
set_option maxRecDepth 20000 in
theorem ggX5_type_X5_refuses : GoodIn wsX5_type wsX5_refuses := goodIn_r _ [10, 11, 12, 13, 14, 15, 16, 17, 18, 19, 20, 21, 22, 23, 24, 25, 26, 27, 28, 29, 30, 31, 32] (by decide +kernel) (by decide +kernel)
set_option maxRecDepth 20000 in
theorem gX5_type_X5_refuses : GoodIn wsX5_type (wsV RX5 35 RX5 yX5_refuses wsX5_refuses) := goodIn_app (goodIn_of _ (by decide +kernel)) ggX5_type_X5_refuses
theorem dX5_type_0 : decode cX5_type 0 = .ok (.iload_n 1, 1) := by decide +kernel
theorem dX5_type_1 : decode cX5_type 1 = .ok (.iconst 0, 1) := by decide +kernel
theorem dX5_type_2 : decode cX5_type 2 = .ok (.bipush 127, 2) := by decide +kernel
theorem dX5_type_4 : decode cX5_type 4 = .ok (.invokestatic 42, 3) := by decide +kernel
theorem dX5_type_7 : decode cX5_type 7 = .ok (.ifCond .ne 11, 3) := by decide +kernel
theorem dX5_type_10 : decode cX5_type 10 = .ok (.aload_n 0, 1) := by decide +kernel
theorem dX5_type_11 : decode cX5_type 11 = .ok (.sipush (-10002), 3) := by decide +kernel
theorem dX5_type_14 : decode cX5_type 14 = .ok (.invokevirtual 35, 3) := by decide +kernel
theorem dX5_type_17 : decode cX5_type 17 = .ok (.ireturn, 1) := by decide +kernel
theorem dX5_type_18 : decode cX5_type 18 = .ok (.aload_n 0, 1) := by decide +kernel
theorem dX5_type_19 : decode cX5_type 19 = .ok (.getfield 209, 3) := by decide +kernel
theorem dX5_type_22 : decode cX5_type 22 = .ok (.sipush 150, 3) := by decide +kernel
theorem dX5_type_25 : decode cX5_type 25 = .ok (.if_icmp .ne 11, 3) := by decide +kernel
theorem dX5_type_28 : decode cX5_type 28 = .ok (.aload_n 0, 1) := by decide +kernel
theorem dX5_type_29 : decode cX5_type 29 = .ok (.sipush (-10004), 3) := by decide +kernel
theorem dX5_type_32 : decode cX5_type 32 = .ok (.invokevirtual 35, 3) := by decide +kernel
theorem dX5_type_35 : decode cX5_type 35 = .ok (.ireturn, 1) := by decide +kernel
theorem dX5_type_36 : decode cX5_type 36 = .ok (.aload_n 0, 1) := by decide +kernel
theorem dX5_type_37 : decode cX5_type 37 = .ok (.getfield 22, 3) := by decide +kernel
theorem dX5_type_40 : decode cX5_type 40 = .ok (.aload_n 0, 1) := by decide +kernel
theorem dX5_type_41 : decode cX5_type 41 = .ok (.getfield 209, 3) := by decide +kernel
theorem dX5_type_44 : decode cX5_type 44 = .ok (.iload_n 1, 1) := by decide +kernel
theorem dX5_type_45 : decode cX5_type 45 = .ok (.iastore, 1) := by decide +kernel
theorem dX5_type_46 : decode cX5_type 46 = .ok (.aload_n 0, 1) := by decide +kernel
theorem dX5_type_47 : decode cX5_type 47 = .ok (.dup, 1) := by decide +kernel
theorem dX5_type_48 : decode cX5_type 48 = .ok (.getfield 209, 3) := by decide +kernel
theorem dX5_type_51 : decode cX5_type 51 = .ok (.iconst 1, 1) := by decide +kernel
theorem dX5_type_52 : decode cX5_type 52 = .ok (.iadd, 1) := by decide +kernel
theorem dX5_type_53 : decode cX5_type 53 = .ok (.putfield 209, 3) := by decide +kernel
theorem dX5_type_56 : decode cX5_type 56 = .ok (.aload_n 0, 1) := by decide +kernel
theorem dX5_type_57 : decode cX5_type 57 = .ok (.getfield 209, 3) := by decide +kernel
theorem dX5_type_60 : decode cX5_type 60 = .ok (.ireturn, 1) := by decide +kernel
theorem dX5_wipes_0 : decode cX5_wipes 0 = .ok (.aload_n 0, 1) := by decide +kernel
theorem dX5_wipes_1 : decode cX5_wipes 1 = .ok (.getfield 209, 3) := by decide +kernel
theorem dX5_wipes_4 : decode cX5_wipes 4 = .ok (.istore_n 1, 1) := by decide +kernel
theorem dX5_wipes_5 : decode cX5_wipes 5 = .ok (.aload_n 0, 1) := by decide +kernel
theorem dX5_wipes_6 : decode cX5_wipes 6 = .ok (.iconst 0, 1) := by decide +kernel
theorem dX5_wipes_7 : decode cX5_wipes 7 = .ok (.putfield 209, 3) := by decide +kernel
theorem dX5_wipes_10 : decode cX5_wipes 10 = .ok (.iload_n 1, 1) := by decide +kernel
theorem dX5_wipes_11 : decode cX5_wipes 11 = .ok (.ireturn, 1) := by decide +kernel
set_option maxRecDepth 20000 in
theorem ggX5_isAt_X5_in : GoodIn wsX5_isAt wsX5_in := goodIn_r _ [7] (by decide +kernel) (by decide +kernel)
set_option maxRecDepth 20000 in
theorem gX5_isAt_X5_in : GoodIn wsX5_isAt (va_wsS RX5 42 yX5_in wsX5_in) := goodIn_app (goodIn_of _ (by decide +kernel)) ggX5_isAt_X5_in
theorem dX5_isAt_0 : decode cX5_isAt 0 = .ok (.aload_n 0, 1) := by decide +kernel
theorem dX5_isAt_1 : decode cX5_isAt 1 = .ok (.getfield 212, 3) := by decide +kernel
theorem dX5_isAt_4 : decode cX5_isAt 4 = .ok (.aload_n 0, 1) := by decide +kernel
theorem dX5_isAt_5 : decode cX5_isAt 5 = .ok (.getfield 209, 3) := by decide +kernel
theorem dX5_isAt_8 : decode cX5_isAt 8 = .ok (.if_icmp .ge 24, 3) := by decide +kernel
theorem dX5_isAt_11 : decode cX5_isAt 11 = .ok (.aload_n 0, 1) := by decide +kernel
theorem dX5_isAt_12 : decode cX5_isAt 12 = .ok (.getfield 22, 3) := by decide +kernel
theorem dX5_isAt_15 : decode cX5_isAt 15 = .ok (.aload_n 0, 1) := by decide +kernel
theorem dX5_isAt_16 : decode cX5_isAt 16 = .ok (.getfield 212, 3) := by decide +kernel
theorem dX5_isAt_19 : decode cX5_isAt 19 = .ok (.iaload, 1) := by decide +kernel
theorem dX5_isAt_20 : decode cX5_isAt 20 = .ok (.iload_n 1, 1) := by decide +kernel
theorem dX5_isAt_21 : decode cX5_isAt 21 = .ok (.iload_n 2, 1) := by decide +kernel
theorem dX5_isAt_22 : decode cX5_isAt 22 = .ok (.invokestatic 42, 3) := by decide +kernel
theorem dX5_isAt_25 : decode cX5_isAt 25 = .ok (.ifCond .eq 7, 3) := by decide +kernel
theorem dX5_isAt_28 : decode cX5_isAt 28 = .ok (.iconst 1, 1) := by decide +kernel
theorem dX5_isAt_29 : decode cX5_isAt 29 = .ok (.goto 4, 3) := by decide +kernel
theorem dX5_isAt_32 : decode cX5_isAt 32 = .ok (.iconst 0, 1) := by decide +kernel
theorem dX5_isAt_33 : decode cX5_isAt 33 = .ok (.ireturn, 1) := by decide +kernel
set_option maxRecDepth 20000 in
theorem ggX5_blanks_X5_isAt : GoodIn wsX5_blanks wsX5_isAt := goodIn_r _ [6, 1, 7, 8, 9, 10, 5, 11, 12, 13, 14, 15, 16, 17, 18, 19, 20, 21, 22, 23, 24, 25, 26, 27, 28, 29, 30, 31, 32] (by decide +kernel) (by decide +kernel)
set_option maxRecDepth 20000 in
theorem gX5_blanks_X5_isAt : GoodIn wsX5_blanks (wsV RX5 215 RX5 yX5_isAt wsX5_isAt) := goodIn_app (goodIn_of _ (by decide +kernel)) ggX5_blanks_X5_isAt
theorem dX5_blanks_0 : decode cX5_blanks 0 = .ok (.aload_n 0, 1) := by decide +kernel
theorem dX5_blanks_1 : decode cX5_blanks 1 = .ok (.bipush 32, 2) := by decide +kernel
theorem dX5_blanks_3 : decode cX5_blanks 3 = .ok (.bipush 32, 2) := by decide +kernel
theorem dX5_blanks_5 : decode cX5_blanks 5 = .ok (.invokevirtual 215, 3) := by decide +kernel
theorem dX5_blanks_8 : decode cX5_blanks 8 = .ok (.ifCond .eq 16, 3) := by decide +kernel
theorem dX5_blanks_11 : decode cX5_blanks 11 = .ok (.aload_n 0, 1) := by decide +kernel
theorem dX5_blanks_12 : decode cX5_blanks 12 = .ok (.dup, 1) := by decide +kernel
theorem dX5_blanks_13 : decode cX5_blanks 13 = .ok (.getfield 212, 3) := by decide +kernel
theorem dX5_blanks_16 : decode cX5_blanks 16 = .ok (.iconst 1, 1) := by decide +kernel
theorem dX5_blanks_17 : decode cX5_blanks 17 = .ok (.iadd, 1) := by decide +kernel
theorem dX5_blanks_18 : decode cX5_blanks 18 = .ok (.putfield 212, 3) := by decide +kernel
theorem dX5_blanks_21 : decode cX5_blanks 21 = .ok (.goto (-21), 3) := by decide +kernel
theorem dX5_blanks_24 : decode cX5_blanks 24 = .ok (.return_, 1) := by decide +kernel
theorem dX5_fails_0 : decode cX5_fails 0 = .ok (.aload_n 0, 1) := by decide +kernel
theorem dX5_fails_1 : decode cX5_fails 1 = .ok (.aload_n 0, 1) := by decide +kernel
theorem dX5_fails_2 : decode cX5_fails 2 = .ok (.getfield 212, 3) := by decide +kernel
theorem dX5_fails_5 : decode cX5_fails 5 = .ok (.putfield 218, 3) := by decide +kernel
theorem dX5_fails_8 : decode cX5_fails 8 = .ok (.iconst 0, 1) := by decide +kernel
theorem dX5_fails_9 : decode cX5_fails 9 = .ok (.ireturn, 1) := by decide +kernel
theorem dX5_manyOf_0 : decode cX5_manyOf 0 = .ok (.iload_n 0, 1) := by decide +kernel
theorem dX5_manyOf_1 : decode cX5_manyOf 1 = .ok (.tableswitch 103 97 116 #[95, 101, 103, 103, 103, 103, 103, 103, 103, 103, 103, 103, 103, 99, 95, 103, 103, 103, 97, 97], 95) := by decide +kernel
theorem dX5_manyOf_96 : decode cX5_manyOf 96 = .ok (.iconst 4, 1) := by decide +kernel
theorem dX5_manyOf_97 : decode cX5_manyOf 97 = .ok (.ireturn, 1) := by decide +kernel
theorem dX5_manyOf_98 : decode cX5_manyOf 98 = .ok (.iconst 2, 1) := by decide +kernel
theorem dX5_manyOf_99 : decode cX5_manyOf 99 = .ok (.ireturn, 1) := by decide +kernel
theorem dX5_manyOf_100 : decode cX5_manyOf 100 = .ok (.iconst 1, 1) := by decide +kernel
theorem dX5_manyOf_101 : decode cX5_manyOf 101 = .ok (.ireturn, 1) := by decide +kernel
theorem dX5_manyOf_102 : decode cX5_manyOf 102 = .ok (.iconst 0, 1) := by decide +kernel
theorem dX5_manyOf_103 : decode cX5_manyOf 103 = .ok (.ireturn, 1) := by decide +kernel
theorem dX5_manyOf_104 : decode cX5_manyOf 104 = .ok (.sipush (-10001), 3) := by decide +kernel
theorem dX5_manyOf_107 : decode cX5_manyOf 107 = .ok (.ireturn, 1) := by decide +kernel
set_option maxRecDepth 20000 in
theorem ggX5_takesNumber_X5_blanks : GoodIn wsX5_takesNumber wsX5_blanks := goodIn_r _ [8, 1, 9, 10, 11, 7, 12, 13, 2, 14, 15, 16, 22, 23, 24, 25, 26, 27, 28, 29, 30, 31, 32, 33, 34, 35, 36, 37, 38, 39, 40, 41, 42] (by decide +kernel) (by decide +kernel)
set_option maxRecDepth 20000 in
theorem gX5_takesNumber_X5_blanks : GoodIn wsX5_takesNumber (wsV RX5 221 RX5 yX5_blanks wsX5_blanks) := goodIn_app (goodIn_of _ (by decide +kernel)) ggX5_takesNumber_X5_blanks
set_option maxRecDepth 20000 in
theorem ggX5_takesNumber_X5_isAt : GoodIn wsX5_takesNumber wsX5_isAt := goodIn_r _ [12, 1, 13, 2, 14, 15, 7, 16, 22, 23, 24, 25, 26, 27, 28, 29, 30, 31, 32, 33, 34, 35, 36, 37, 38, 39, 40, 41, 42] (by decide +kernel) (by decide +kernel)
set_option maxRecDepth 20000 in
theorem gX5_takesNumber_X5_isAt : GoodIn wsX5_takesNumber (wsV RX5 215 RX5 yX5_isAt wsX5_isAt) := goodIn_app (goodIn_of _ (by decide +kernel)) ggX5_takesNumber_X5_isAt
set_option maxRecDepth 20000 in
theorem ggX5_takesNumber_X5_fails : GoodIn wsX5_takesNumber wsX5_fails := goodIn_r _ [20, 1, 21, 22, 23, 24, 25, 26, 27, 28, 29, 30, 31, 32, 33, 34, 35, 36, 37, 38, 39, 40, 41, 42] (by decide +kernel) (by decide +kernel)
set_option maxRecDepth 20000 in
theorem gX5_takesNumber_X5_fails : GoodIn wsX5_takesNumber (wsV RX5 224 RX5 yX5_fails wsX5_fails) := goodIn_app (goodIn_of _ (by decide +kernel)) ggX5_takesNumber_X5_fails
theorem dX5_takesNumber_0 : decode cX5_takesNumber 0 = .ok (.aload_n 0, 1) := by decide +kernel
theorem dX5_takesNumber_1 : decode cX5_takesNumber 1 = .ok (.invokevirtual 221, 3) := by decide +kernel
theorem dX5_takesNumber_4 : decode cX5_takesNumber 4 = .ok (.iload_n 2, 1) := by decide +kernel
theorem dX5_takesNumber_5 : decode cX5_takesNumber 5 = .ok (.ifCond .eq 18, 3) := by decide +kernel
theorem dX5_takesNumber_8 : decode cX5_takesNumber 8 = .ok (.aload_n 0, 1) := by decide +kernel
theorem dX5_takesNumber_9 : decode cX5_takesNumber 9 = .ok (.bipush 45, 2) := by decide +kernel
theorem dX5_takesNumber_11 : decode cX5_takesNumber 11 = .ok (.bipush 45, 2) := by decide +kernel
theorem dX5_takesNumber_13 : decode cX5_takesNumber 13 = .ok (.invokevirtual 215, 3) := by decide +kernel
theorem dX5_takesNumber_16 : decode cX5_takesNumber 16 = .ok (.ifCond .eq 7, 3) := by decide +kernel
theorem dX5_takesNumber_19 : decode cX5_takesNumber 19 = .ok (.iconst 1, 1) := by decide +kernel
theorem dX5_takesNumber_20 : decode cX5_takesNumber 20 = .ok (.goto 4, 3) := by decide +kernel
theorem dX5_takesNumber_23 : decode cX5_takesNumber 23 = .ok (.iconst 0, 1) := by decide +kernel
theorem dX5_takesNumber_24 : decode cX5_takesNumber 24 = .ok (.istore_n 3, 1) := by decide +kernel
theorem dX5_takesNumber_25 : decode cX5_takesNumber 25 = .ok (.aload_n 0, 1) := by decide +kernel
theorem dX5_takesNumber_26 : decode cX5_takesNumber 26 = .ok (.dup, 1) := by decide +kernel
theorem dX5_takesNumber_27 : decode cX5_takesNumber 27 = .ok (.getfield 212, 3) := by decide +kernel
theorem dX5_takesNumber_30 : decode cX5_takesNumber 30 = .ok (.iload_n 3, 1) := by decide +kernel
theorem dX5_takesNumber_31 : decode cX5_takesNumber 31 = .ok (.ifCond .eq 7, 3) := by decide +kernel
theorem dX5_takesNumber_34 : decode cX5_takesNumber 34 = .ok (.iconst 1, 1) := by decide +kernel
theorem dX5_takesNumber_35 : decode cX5_takesNumber 35 = .ok (.goto 4, 3) := by decide +kernel
theorem dX5_takesNumber_38 : decode cX5_takesNumber 38 = .ok (.iconst 0, 1) := by decide +kernel
theorem dX5_takesNumber_39 : decode cX5_takesNumber 39 = .ok (.iadd, 1) := by decide +kernel
theorem dX5_takesNumber_40 : decode cX5_takesNumber 40 = .ok (.putfield 212, 3) := by decide +kernel
theorem dX5_takesNumber_43 : decode cX5_takesNumber 43 = .ok (.aload_n 0, 1) := by decide +kernel
theorem dX5_takesNumber_44 : decode cX5_takesNumber 44 = .ok (.getfield 212, 3) := by decide +kernel
theorem dX5_takesNumber_47 : decode cX5_takesNumber 47 = .ok (.istore 4, 2) := by decide +kernel
theorem dX5_takesNumber_49 : decode cX5_takesNumber 49 = .ok (.iconst 0, 1) := by decide +kernel
theorem dX5_takesNumber_50 : decode cX5_takesNumber 50 = .ok (.istore 5, 2) := by decide +kernel
theorem dX5_takesNumber_52 : decode cX5_takesNumber 52 = .ok (.aload_n 0, 1) := by decide +kernel
theorem dX5_takesNumber_53 : decode cX5_takesNumber 53 = .ok (.bipush 48, 2) := by decide +kernel
theorem dX5_takesNumber_55 : decode cX5_takesNumber 55 = .ok (.bipush 57, 2) := by decide +kernel
theorem dX5_takesNumber_57 : decode cX5_takesNumber 57 = .ok (.invokevirtual 215, 3) := by decide +kernel
theorem dX5_takesNumber_60 : decode cX5_takesNumber 60 = .ok (.ifCond .eq 52, 3) := by decide +kernel
theorem dX5_takesNumber_63 : decode cX5_takesNumber 63 = .ok (.aload_n 0, 1) := by decide +kernel
theorem dX5_takesNumber_64 : decode cX5_takesNumber 64 = .ok (.getfield 212, 3) := by decide +kernel
theorem dX5_takesNumber_67 : decode cX5_takesNumber 67 = .ok (.iload 4, 2) := by decide +kernel
theorem dX5_takesNumber_69 : decode cX5_takesNumber 69 = .ok (.iconst 4, 1) := by decide +kernel
theorem dX5_takesNumber_70 : decode cX5_takesNumber 70 = .ok (.iadd, 1) := by decide +kernel
theorem dX5_takesNumber_71 : decode cX5_takesNumber 71 = .ok (.if_icmp .ne 8, 3) := by decide +kernel
theorem dX5_takesNumber_74 : decode cX5_takesNumber 74 = .ok (.aload_n 0, 1) := by decide +kernel
theorem dX5_takesNumber_75 : decode cX5_takesNumber 75 = .ok (.invokevirtual 224, 3) := by decide +kernel
theorem dX5_takesNumber_78 : decode cX5_takesNumber 78 = .ok (.ireturn, 1) := by decide +kernel
theorem dX5_takesNumber_79 : decode cX5_takesNumber 79 = .ok (.bipush 10, 2) := by decide +kernel
theorem dX5_takesNumber_81 : decode cX5_takesNumber 81 = .ok (.iload 5, 2) := by decide +kernel
theorem dX5_takesNumber_83 : decode cX5_takesNumber 83 = .ok (.imul, 1) := by decide +kernel
theorem dX5_takesNumber_84 : decode cX5_takesNumber 84 = .ok (.aload_n 0, 1) := by decide +kernel
theorem dX5_takesNumber_85 : decode cX5_takesNumber 85 = .ok (.getfield 22, 3) := by decide +kernel
theorem dX5_takesNumber_88 : decode cX5_takesNumber 88 = .ok (.aload_n 0, 1) := by decide +kernel
theorem dX5_takesNumber_89 : decode cX5_takesNumber 89 = .ok (.getfield 212, 3) := by decide +kernel
theorem dX5_takesNumber_92 : decode cX5_takesNumber 92 = .ok (.iaload, 1) := by decide +kernel
theorem dX5_takesNumber_93 : decode cX5_takesNumber 93 = .ok (.iadd, 1) := by decide +kernel
theorem dX5_takesNumber_94 : decode cX5_takesNumber 94 = .ok (.bipush 48, 2) := by decide +kernel
theorem dX5_takesNumber_96 : decode cX5_takesNumber 96 = .ok (.isub, 1) := by decide +kernel
theorem dX5_takesNumber_97 : decode cX5_takesNumber 97 = .ok (.istore 5, 2) := by decide +kernel
theorem dX5_takesNumber_99 : decode cX5_takesNumber 99 = .ok (.aload_n 0, 1) := by decide +kernel
theorem dX5_takesNumber_100 : decode cX5_takesNumber 100 = .ok (.dup, 1) := by decide +kernel
theorem dX5_takesNumber_101 : decode cX5_takesNumber 101 = .ok (.getfield 212, 3) := by decide +kernel
theorem dX5_takesNumber_104 : decode cX5_takesNumber 104 = .ok (.iconst 1, 1) := by decide +kernel
theorem dX5_takesNumber_105 : decode cX5_takesNumber 105 = .ok (.iadd, 1) := by decide +kernel
theorem dX5_takesNumber_106 : decode cX5_takesNumber 106 = .ok (.putfield 212, 3) := by decide +kernel
theorem dX5_takesNumber_109 : decode cX5_takesNumber 109 = .ok (.goto (-57), 3) := by decide +kernel
theorem dX5_takesNumber_112 : decode cX5_takesNumber 112 = .ok (.aload_n 0, 1) := by decide +kernel
theorem dX5_takesNumber_113 : decode cX5_takesNumber 113 = .ok (.getfield 28, 3) := by decide +kernel
theorem dX5_takesNumber_116 : decode cX5_takesNumber 116 = .ok (.iload_n 1, 1) := by decide +kernel
theorem dX5_takesNumber_117 : decode cX5_takesNumber 117 = .ok (.iload_n 3, 1) := by decide +kernel
theorem dX5_takesNumber_118 : decode cX5_takesNumber 118 = .ok (.ifCond .eq 9, 3) := by decide +kernel
theorem dX5_takesNumber_121 : decode cX5_takesNumber 121 = .ok (.iload 5, 2) := by decide +kernel
theorem dX5_takesNumber_123 : decode cX5_takesNumber 123 = .ok (.ineg, 1) := by decide +kernel
theorem dX5_takesNumber_124 : decode cX5_takesNumber 124 = .ok (.goto 5, 3) := by decide +kernel
theorem dX5_takesNumber_127 : decode cX5_takesNumber 127 = .ok (.iload 5, 2) := by decide +kernel
theorem dX5_takesNumber_129 : decode cX5_takesNumber 129 = .ok (.iastore, 1) := by decide +kernel
theorem dX5_takesNumber_130 : decode cX5_takesNumber 130 = .ok (.aload_n 0, 1) := by decide +kernel
theorem dX5_takesNumber_131 : decode cX5_takesNumber 131 = .ok (.getfield 212, 3) := by decide +kernel
theorem dX5_takesNumber_134 : decode cX5_takesNumber 134 = .ok (.iload 4, 2) := by decide +kernel
theorem dX5_takesNumber_136 : decode cX5_takesNumber 136 = .ok (.if_icmp .gt 10, 3) := by decide +kernel
theorem dX5_takesNumber_139 : decode cX5_takesNumber 139 = .ok (.aload_n 0, 1) := by decide +kernel
theorem dX5_takesNumber_140 : decode cX5_takesNumber 140 = .ok (.invokevirtual 224, 3) := by decide +kernel
theorem dX5_takesNumber_143 : decode cX5_takesNumber 143 = .ok (.ifCond .eq 7, 3) := by decide +kernel
theorem dX5_takesNumber_146 : decode cX5_takesNumber 146 = .ok (.iconst 1, 1) := by decide +kernel
theorem dX5_takesNumber_147 : decode cX5_takesNumber 147 = .ok (.goto 4, 3) := by decide +kernel
theorem dX5_takesNumber_150 : decode cX5_takesNumber 150 = .ok (.iconst 0, 1) := by decide +kernel
theorem dX5_takesNumber_151 : decode cX5_takesNumber 151 = .ok (.ireturn, 1) := by decide +kernel
set_option maxRecDepth 20000 in
theorem ggX5_takesOrder_X5_manyOf : GoodIn wsX5_takesOrder wsX5_manyOf := goodIn_r _ [8] (by decide +kernel) (by decide +kernel)
set_option maxRecDepth 20000 in
theorem gX5_takesOrder_X5_manyOf : GoodIn wsX5_takesOrder (va_wsS RX5 227 yX5_manyOf wsX5_manyOf) := goodIn_app (goodIn_of _ (by decide +kernel)) ggX5_takesOrder_X5_manyOf
set_option maxRecDepth 20000 in
theorem ggX5_takesOrder_X5_fails : GoodIn wsX5_takesOrder wsX5_fails := goodIn_r _ [12, 2, 13, 31, 32, 33, 34, 35, 36, 37, 38, 39, 40, 41, 42, 43, 44, 45, 46, 47, 48, 49, 50, 51] (by decide +kernel) (by decide +kernel)
set_option maxRecDepth 20000 in
theorem gX5_takesOrder_X5_fails : GoodIn wsX5_takesOrder (wsV RX5 224 RX5 yX5_fails wsX5_fails) := goodIn_app (goodIn_of _ (by decide +kernel)) ggX5_takesOrder_X5_fails
set_option maxRecDepth 20000 in
theorem ggX5_takesOrder_X5_takesNumber : GoodIn wsX5_takesOrder wsX5_takesNumber := goodIn_r _ [17, 2, 1, 18, 19, 20, 21, 7, 22, 23, 24, 25, 26, 27, 28, 29, 30, 9, 10, 11, 12, 13, 31, 32, 33, 34, 35, 36, 37, 38, 39, 40, 41, 42, 43, 44, 45, 46, 47, 48, 49, 50, 51] (by decide +kernel) (by decide +kernel)
set_option maxRecDepth 20000 in
theorem gX5_takesOrder_X5_takesNumber : GoodIn wsX5_takesOrder (wsV RX5 233 RX5 yX5_takesNumber wsX5_takesNumber) := goodIn_app (goodIn_of _ (by decide +kernel)) ggX5_takesOrder_X5_takesNumber
set_option maxRecDepth 20000 in
theorem ggX5_takesOrder_X5_blanks : GoodIn wsX5_takesOrder wsX5_blanks := goodIn_r _ [22, 2, 23, 24, 25, 7, 26, 27, 1, 28, 29, 30, 31, 32, 33, 34, 35, 36, 37, 38, 39, 40, 41, 42, 43, 44, 45, 46, 47, 48, 49, 50, 51] (by decide +kernel) (by decide +kernel)
set_option maxRecDepth 20000 in
theorem gX5_takesOrder_X5_blanks : GoodIn wsX5_takesOrder (wsV RX5 221 RX5 yX5_blanks wsX5_blanks) := goodIn_app (goodIn_of _ (by decide +kernel)) ggX5_takesOrder_X5_blanks
set_option maxRecDepth 20000 in
theorem ggX5_takesOrder_X5_isAt : GoodIn wsX5_takesOrder wsX5_isAt := goodIn_r _ [26, 2, 27, 1, 28, 29, 7, 30, 31, 32, 33, 34, 35, 36, 37, 38, 39, 40, 41, 42, 43, 44, 45, 46, 47, 48, 49, 50, 51] (by decide +kernel) (by decide +kernel)
set_option maxRecDepth 20000 in
theorem gX5_takesOrder_X5_isAt : GoodIn wsX5_takesOrder (wsV RX5 215 RX5 yX5_isAt wsX5_isAt) := goodIn_app (goodIn_of _ (by decide +kernel)) ggX5_takesOrder_X5_isAt
theorem dX5_takesOrder_0 : decode cX5_takesOrder 0 = .ok (.aload_n 0, 1) := by decide +kernel
theorem dX5_takesOrder_1 : decode cX5_takesOrder 1 = .ok (.getfield 22, 3) := by decide +kernel
theorem dX5_takesOrder_4 : decode cX5_takesOrder 4 = .ok (.aload_n 0, 1) := by decide +kernel
theorem dX5_takesOrder_5 : decode cX5_takesOrder 5 = .ok (.getfield 212, 3) := by decide +kernel
theorem dX5_takesOrder_8 : decode cX5_takesOrder 8 = .ok (.iaload, 1) := by decide +kernel
theorem dX5_takesOrder_9 : decode cX5_takesOrder 9 = .ok (.istore_n 1, 1) := by decide +kernel
theorem dX5_takesOrder_10 : decode cX5_takesOrder 10 = .ok (.iload_n 1, 1) := by decide +kernel
theorem dX5_takesOrder_11 : decode cX5_takesOrder 11 = .ok (.invokestatic 227, 3) := by decide +kernel
theorem dX5_takesOrder_14 : decode cX5_takesOrder 14 = .ok (.istore_n 2, 1) := by decide +kernel
theorem dX5_takesOrder_15 : decode cX5_takesOrder 15 = .ok (.iload_n 2, 1) := by decide +kernel
theorem dX5_takesOrder_16 : decode cX5_takesOrder 16 = .ok (.sipush (-10001), 3) := by decide +kernel
theorem dX5_takesOrder_19 : decode cX5_takesOrder 19 = .ok (.if_icmp .ne 8, 3) := by decide +kernel
theorem dX5_takesOrder_22 : decode cX5_takesOrder 22 = .ok (.aload_n 0, 1) := by decide +kernel
theorem dX5_takesOrder_23 : decode cX5_takesOrder 23 = .ok (.invokevirtual 224, 3) := by decide +kernel
theorem dX5_takesOrder_26 : decode cX5_takesOrder 26 = .ok (.ireturn, 1) := by decide +kernel
theorem dX5_takesOrder_27 : decode cX5_takesOrder 27 = .ok (.aload_n 0, 1) := by decide +kernel
theorem dX5_takesOrder_28 : decode cX5_takesOrder 28 = .ok (.getfield 25, 3) := by decide +kernel
theorem dX5_takesOrder_31 : decode cX5_takesOrder 31 = .ok (.aload_n 0, 1) := by decide +kernel
theorem dX5_takesOrder_32 : decode cX5_takesOrder 32 = .ok (.getfield 230, 3) := by decide +kernel
theorem dX5_takesOrder_35 : decode cX5_takesOrder 35 = .ok (.iload_n 1, 1) := by decide +kernel
theorem dX5_takesOrder_36 : decode cX5_takesOrder 36 = .ok (.iastore, 1) := by decide +kernel
theorem dX5_takesOrder_37 : decode cX5_takesOrder 37 = .ok (.aload_n 0, 1) := by decide +kernel
theorem dX5_takesOrder_38 : decode cX5_takesOrder 38 = .ok (.dup, 1) := by decide +kernel
theorem dX5_takesOrder_39 : decode cX5_takesOrder 39 = .ok (.getfield 212, 3) := by decide +kernel
theorem dX5_takesOrder_42 : decode cX5_takesOrder 42 = .ok (.iconst 1, 1) := by decide +kernel
theorem dX5_takesOrder_43 : decode cX5_takesOrder 43 = .ok (.iadd, 1) := by decide +kernel
theorem dX5_takesOrder_44 : decode cX5_takesOrder 44 = .ok (.putfield 212, 3) := by decide +kernel
theorem dX5_takesOrder_47 : decode cX5_takesOrder 47 = .ok (.iconst 0, 1) := by decide +kernel
theorem dX5_takesOrder_48 : decode cX5_takesOrder 48 = .ok (.istore_n 3, 1) := by decide +kernel
theorem dX5_takesOrder_49 : decode cX5_takesOrder 49 = .ok (.iload_n 3, 1) := by decide +kernel
theorem dX5_takesOrder_50 : decode cX5_takesOrder 50 = .ok (.iload_n 2, 1) := by decide +kernel
theorem dX5_takesOrder_51 : decode cX5_takesOrder 51 = .ok (.if_icmp .ge 41, 3) := by decide +kernel
theorem dX5_takesOrder_54 : decode cX5_takesOrder 54 = .ok (.aload_n 0, 1) := by decide +kernel
theorem dX5_takesOrder_55 : decode cX5_takesOrder 55 = .ok (.iconst 4, 1) := by decide +kernel
theorem dX5_takesOrder_56 : decode cX5_takesOrder 56 = .ok (.aload_n 0, 1) := by decide +kernel
theorem dX5_takesOrder_57 : decode cX5_takesOrder 57 = .ok (.getfield 230, 3) := by decide +kernel
theorem dX5_takesOrder_60 : decode cX5_takesOrder 60 = .ok (.imul, 1) := by decide +kernel
theorem dX5_takesOrder_61 : decode cX5_takesOrder 61 = .ok (.iload_n 3, 1) := by decide +kernel
theorem dX5_takesOrder_62 : decode cX5_takesOrder 62 = .ok (.iadd, 1) := by decide +kernel
theorem dX5_takesOrder_63 : decode cX5_takesOrder 63 = .ok (.iload_n 2, 1) := by decide +kernel
theorem dX5_takesOrder_64 : decode cX5_takesOrder 64 = .ok (.iconst 4, 1) := by decide +kernel
theorem dX5_takesOrder_65 : decode cX5_takesOrder 65 = .ok (.if_icmp .ne 12, 3) := by decide +kernel
theorem dX5_takesOrder_68 : decode cX5_takesOrder 68 = .ok (.iload_n 3, 1) := by decide +kernel
theorem dX5_takesOrder_69 : decode cX5_takesOrder 69 = .ok (.iconst 2, 1) := by decide +kernel
theorem dX5_takesOrder_70 : decode cX5_takesOrder 70 = .ok (.if_icmp .ge 7, 3) := by decide +kernel
theorem dX5_takesOrder_73 : decode cX5_takesOrder 73 = .ok (.iconst 1, 1) := by decide +kernel
theorem dX5_takesOrder_74 : decode cX5_takesOrder 74 = .ok (.goto 4, 3) := by decide +kernel
theorem dX5_takesOrder_77 : decode cX5_takesOrder 77 = .ok (.iconst 0, 1) := by decide +kernel
theorem dX5_takesOrder_78 : decode cX5_takesOrder 78 = .ok (.invokevirtual 233, 3) := by decide +kernel
theorem dX5_takesOrder_81 : decode cX5_takesOrder 81 = .ok (.ifCond .ne 5, 3) := by decide +kernel
theorem dX5_takesOrder_84 : decode cX5_takesOrder 84 = .ok (.iconst 0, 1) := by decide +kernel
theorem dX5_takesOrder_85 : decode cX5_takesOrder 85 = .ok (.ireturn, 1) := by decide +kernel
theorem dX5_takesOrder_86 : decode cX5_takesOrder 86 = .ok (.iinc 3 1, 3) := by decide +kernel
theorem dX5_takesOrder_89 : decode cX5_takesOrder 89 = .ok (.goto (-40), 3) := by decide +kernel
theorem dX5_takesOrder_92 : decode cX5_takesOrder 92 = .ok (.aload_n 0, 1) := by decide +kernel
theorem dX5_takesOrder_93 : decode cX5_takesOrder 93 = .ok (.invokevirtual 221, 3) := by decide +kernel
theorem dX5_takesOrder_96 : decode cX5_takesOrder 96 = .ok (.aload_n 0, 1) := by decide +kernel
theorem dX5_takesOrder_97 : decode cX5_takesOrder 97 = .ok (.bipush 59, 2) := by decide +kernel
theorem dX5_takesOrder_99 : decode cX5_takesOrder 99 = .ok (.bipush 59, 2) := by decide +kernel
theorem dX5_takesOrder_101 : decode cX5_takesOrder 101 = .ok (.invokevirtual 215, 3) := by decide +kernel
theorem dX5_takesOrder_104 : decode cX5_takesOrder 104 = .ok (.ifCond .ne 8, 3) := by decide +kernel
theorem dX5_takesOrder_107 : decode cX5_takesOrder 107 = .ok (.aload_n 0, 1) := by decide +kernel
theorem dX5_takesOrder_108 : decode cX5_takesOrder 108 = .ok (.invokevirtual 224, 3) := by decide +kernel
theorem dX5_takesOrder_111 : decode cX5_takesOrder 111 = .ok (.ireturn, 1) := by decide +kernel
theorem dX5_takesOrder_112 : decode cX5_takesOrder 112 = .ok (.aload_n 0, 1) := by decide +kernel
theorem dX5_takesOrder_113 : decode cX5_takesOrder 113 = .ok (.dup, 1) := by decide +kernel
theorem dX5_takesOrder_114 : decode cX5_takesOrder 114 = .ok (.getfield 212, 3) := by decide +kernel
theorem dX5_takesOrder_117 : decode cX5_takesOrder 117 = .ok (.iconst 1, 1) := by decide +kernel
theorem dX5_takesOrder_118 : decode cX5_takesOrder 118 = .ok (.iadd, 1) := by decide +kernel
theorem dX5_takesOrder_119 : decode cX5_takesOrder 119 = .ok (.putfield 212, 3) := by decide +kernel
theorem dX5_takesOrder_122 : decode cX5_takesOrder 122 = .ok (.aload_n 0, 1) := by decide +kernel
theorem dX5_takesOrder_123 : decode cX5_takesOrder 123 = .ok (.dup, 1) := by decide +kernel
theorem dX5_takesOrder_124 : decode cX5_takesOrder 124 = .ok (.getfield 230, 3) := by decide +kernel
theorem dX5_takesOrder_127 : decode cX5_takesOrder 127 = .ok (.iconst 1, 1) := by decide +kernel
theorem dX5_takesOrder_128 : decode cX5_takesOrder 128 = .ok (.iadd, 1) := by decide +kernel
theorem dX5_takesOrder_129 : decode cX5_takesOrder 129 = .ok (.putfield 230, 3) := by decide +kernel
theorem dX5_takesOrder_132 : decode cX5_takesOrder 132 = .ok (.iconst 1, 1) := by decide +kernel
theorem dX5_takesOrder_133 : decode cX5_takesOrder 133 = .ok (.ireturn, 1) := by decide +kernel
set_option maxRecDepth 20000 in
theorem ggX5_isRead_X5_blanks : GoodIn wsX5_isRead wsX5_blanks := goodIn_r _ [8, 1, 9, 10, 11, 7, 12, 3, 13, 14, 15, 16, 35, 36, 37, 38, 39, 40, 41, 42, 43, 44, 45, 46, 47, 48, 49, 50, 51, 52, 53, 54, 55] (by decide +kernel) (by decide +kernel)
set_option maxRecDepth 20000 in
theorem gX5_isRead_X5_blanks : GoodIn wsX5_isRead (wsV RX5 221 RX5 yX5_blanks wsX5_blanks) := goodIn_app (goodIn_of _ (by decide +kernel)) ggX5_isRead_X5_blanks
set_option maxRecDepth 20000 in
theorem ggX5_isRead_X5_takesOrder : GoodIn wsX5_isRead wsX5_takesOrder := goodIn_r _ [20, 13, 1, 21, 2, 22, 23, 7, 24, 25, 26, 27, 28, 29, 30, 31, 32, 33, 34, 4, 5, 6, 8, 9, 10, 11, 12, 3, 14, 15, 16, 35, 36, 37, 38, 39, 40, 41, 42, 43, 44, 45, 46, 47, 48, 49, 50, 51, 52, 53, 54, 55] (by decide +kernel) (by decide +kernel)
set_option maxRecDepth 20000 in
theorem gX5_isRead_X5_takesOrder : GoodIn wsX5_isRead (wsV RX5 237 RX5 yX5_takesOrder wsX5_takesOrder) := goodIn_app (goodIn_of _ (by decide +kernel)) ggX5_isRead_X5_takesOrder
set_option maxRecDepth 20000 in
theorem ggX5_isRead_X5_fails : GoodIn wsX5_isRead wsX5_fails := goodIn_r _ [28, 1, 29, 35, 36, 37, 38, 39, 40, 41, 42, 43, 44, 45, 46, 47, 48, 49, 50, 51, 52, 53, 54, 55] (by decide +kernel) (by decide +kernel)
set_option maxRecDepth 20000 in
theorem gX5_isRead_X5_fails : GoodIn wsX5_isRead (wsV RX5 224 RX5 yX5_fails wsX5_fails) := goodIn_app (goodIn_of _ (by decide +kernel)) ggX5_isRead_X5_fails
theorem dX5_isRead_0 : decode cX5_isRead 0 = .ok (.aload_n 0, 1) := by decide +kernel
theorem dX5_isRead_1 : decode cX5_isRead 1 = .ok (.iconst 0, 1) := by decide +kernel
theorem dX5_isRead_2 : decode cX5_isRead 2 = .ok (.putfield 212, 3) := by decide +kernel
theorem dX5_isRead_5 : decode cX5_isRead 5 = .ok (.aload_n 0, 1) := by decide +kernel
theorem dX5_isRead_6 : decode cX5_isRead 6 = .ok (.iconst 0, 1) := by decide +kernel
theorem dX5_isRead_7 : decode cX5_isRead 7 = .ok (.putfield 230, 3) := by decide +kernel
theorem dX5_isRead_10 : decode cX5_isRead 10 = .ok (.aload_n 0, 1) := by decide +kernel
theorem dX5_isRead_11 : decode cX5_isRead 11 = .ok (.invokevirtual 221, 3) := by decide +kernel
theorem dX5_isRead_14 : decode cX5_isRead 14 = .ok (.aload_n 0, 1) := by decide +kernel
theorem dX5_isRead_15 : decode cX5_isRead 15 = .ok (.getfield 212, 3) := by decide +kernel
theorem dX5_isRead_18 : decode cX5_isRead 18 = .ok (.aload_n 0, 1) := by decide +kernel
theorem dX5_isRead_19 : decode cX5_isRead 19 = .ok (.getfield 209, 3) := by decide +kernel
theorem dX5_isRead_22 : decode cX5_isRead 22 = .ok (.if_icmp .ge 19, 3) := by decide +kernel
theorem dX5_isRead_25 : decode cX5_isRead 25 = .ok (.aload_n 0, 1) := by decide +kernel
theorem dX5_isRead_26 : decode cX5_isRead 26 = .ok (.invokevirtual 237, 3) := by decide +kernel
theorem dX5_isRead_29 : decode cX5_isRead 29 = .ok (.ifCond .ne 5, 3) := by decide +kernel
theorem dX5_isRead_32 : decode cX5_isRead 32 = .ok (.iconst 0, 1) := by decide +kernel
theorem dX5_isRead_33 : decode cX5_isRead 33 = .ok (.ireturn, 1) := by decide +kernel
theorem dX5_isRead_34 : decode cX5_isRead 34 = .ok (.aload_n 0, 1) := by decide +kernel
theorem dX5_isRead_35 : decode cX5_isRead 35 = .ok (.invokevirtual 221, 3) := by decide +kernel
theorem dX5_isRead_38 : decode cX5_isRead 38 = .ok (.goto (-24), 3) := by decide +kernel
theorem dX5_isRead_41 : decode cX5_isRead 41 = .ok (.aload_n 0, 1) := by decide +kernel
theorem dX5_isRead_42 : decode cX5_isRead 42 = .ok (.getfield 230, 3) := by decide +kernel
theorem dX5_isRead_45 : decode cX5_isRead 45 = .ok (.ifCond .gt 10, 3) := by decide +kernel
theorem dX5_isRead_48 : decode cX5_isRead 48 = .ok (.aload_n 0, 1) := by decide +kernel
theorem dX5_isRead_49 : decode cX5_isRead 49 = .ok (.invokevirtual 224, 3) := by decide +kernel
theorem dX5_isRead_52 : decode cX5_isRead 52 = .ok (.ifCond .eq 7, 3) := by decide +kernel
theorem dX5_isRead_55 : decode cX5_isRead 55 = .ok (.iconst 1, 1) := by decide +kernel
theorem dX5_isRead_56 : decode cX5_isRead 56 = .ok (.goto 4, 3) := by decide +kernel
theorem dX5_isRead_59 : decode cX5_isRead 59 = .ok (.iconst 0, 1) := by decide +kernel
theorem dX5_isRead_60 : decode cX5_isRead 60 = .ok (.ireturn, 1) := by decide +kernel
set_option maxRecDepth 20000 in
theorem ggX5_doneOne_X5_putOther : GoodIn wsX5_doneOne wsX5_putOther := goodIn_r _ [7, 8, 9, 10, 6, 11, 12, 13, 14, 15, 16, 17, 18, 19, 20, 21, 22, 23, 24, 25, 137, 138, 139, 140, 141, 142, 143, 144, 145, 146, 147, 148, 149, 150, 151, 152, 153, 154, 155, 156, 157] (by decide +kernel) (by decide +kernel)
set_option maxRecDepth 20000 in
theorem gX5_doneOne_X5_putOther : GoodIn wsX5_doneOne (wsV RX5 167 RX5 yX5_putOther wsX5_putOther) := goodIn_app (goodIn_of _ (by decide +kernel)) ggX5_doneOne_X5_putOther
set_option maxRecDepth 20000 in
theorem ggX5_doneOne_X5_putOwn : GoodIn wsX5_doneOne wsX5_putOwn := goodIn_r _ [29, 8, 9, 10, 6, 11, 12, 13, 14, 15, 16, 17, 18, 19, 20, 21, 22, 23, 24, 25, 137, 138, 139, 140, 141, 142, 143, 144, 145, 146, 147, 148, 149, 150, 151, 152, 153, 154, 155, 156, 157] (by decide +kernel) (by decide +kernel)
set_option maxRecDepth 20000 in
theorem gX5_doneOne_X5_putOwn : GoodIn wsX5_doneOne (wsV RX5 174 RX5 yX5_putOwn wsX5_putOwn) := goodIn_app (goodIn_of _ (by decide +kernel)) ggX5_doneOne_X5_putOwn
set_option maxRecDepth 20000 in
theorem ggX5_doneOne_X5_putCourse : GoodIn wsX5_doneOne wsX5_putCourse := goodIn_r _ [33, 34, 35, 36, 6, 37, 8, 12, 13, 14, 15, 16, 17, 38, 39, 40, 41, 22, 23, 24, 25, 137, 138, 139, 140, 141, 142, 143, 144, 145, 146, 147, 148, 149, 150, 151, 152, 153, 154, 155, 156, 157] (by decide +kernel) (by decide +kernel)
set_option maxRecDepth 20000 in
theorem gX5_doneOne_X5_putCourse : GoodIn wsX5_doneOne (wsV RX5 180 RX5 yX5_putCourse wsX5_putCourse) := goodIn_app (goodIn_of _ (by decide +kernel)) ggX5_doneOne_X5_putCourse
set_option maxRecDepth 20000 in
theorem ggX5_doneOne_X5_putSteps : GoodIn wsX5_doneOne wsX5_putSteps := goodIn_r _ [45, 8, 12, 13, 6, 14, 38, 39, 40, 41, 46, 47, 48, 49, 50, 51, 52, 53, 54, 55, 56, 57, 58, 59, 9, 10, 11, 22, 23, 24, 25, 60, 61, 62, 63, 64, 65, 66, 67, 68, 69, 70, 71, 72, 73, 74, 75, 76, 77, 78, 79, 80, 81, 82, 83, 84, 85, 86, 87, 88, 89, 90, 91, 92, 93, 94, 95, 96, 97, 98, 99, 100, 101, 102, 103, 104, 105, 106, 107, 108, 109, 110, 111, 112, 113, 114, 115, 116, 137, 138, 139, 140, 141, 142, 143, 144, 145, 146, 147, 148, 149, 150, 151, 152, 153, 154, 155, 156, 157] (by decide +kernel) (by decide +kernel)
set_option maxRecDepth 20000 in
theorem gX5_doneOne_X5_putSteps : GoodIn wsX5_doneOne (wsV RX5 187 RX5 yX5_putSteps wsX5_putSteps) := goodIn_app (goodIn_of _ (by decide +kernel)) ggX5_doneOne_X5_putSteps
set_option maxRecDepth 20000 in
theorem ggX5_doneOne_X5_putObeyed : GoodIn wsX5_doneOne wsX5_putObeyed := goodIn_r _ [120, 121, 122, 123, 6, 124, 38, 39, 40, 41, 8, 125, 126, 127, 128, 64, 65, 66, 67, 68, 69, 70, 71, 72, 73, 74, 75, 76, 77, 78, 79, 80, 81, 82, 83, 50, 51, 52, 53, 54, 55, 84, 85, 86, 87, 88, 89, 90, 91, 92, 93, 94, 95, 96, 97, 98, 99, 100, 101, 102, 103, 104, 105, 106, 107, 108, 109, 110, 111, 112, 129, 130, 131, 132, 22, 23, 24, 25, 137, 138, 139, 140, 141, 142, 143, 144, 145, 146, 147, 148, 149, 150, 151, 152, 153, 154, 155, 156, 157] (by decide +kernel) (by decide +kernel)
set_option maxRecDepth 20000 in
theorem gX5_doneOne_X5_putObeyed : GoodIn wsX5_doneOne (wsV RX5 190 RX5 yX5_putObeyed wsX5_putObeyed) := goodIn_app (goodIn_of _ (by decide +kernel)) ggX5_doneOne_X5_putObeyed
set_option maxRecDepth 20000 in
theorem ggX5_doneOne_X5_putSetting : GoodIn wsX5_doneOne wsX5_putSetting := goodIn_r _ [136, 8, 12, 13, 6, 14, 137, 138, 139, 140, 141, 142, 143, 144, 145, 146, 147, 148, 149, 150, 151, 152, 153, 154, 155, 156, 157] (by decide +kernel) (by decide +kernel)
set_option maxRecDepth 20000 in
theorem gX5_doneOne_X5_putSetting : GoodIn wsX5_doneOne (wsV RX5 184 RX5 yX5_putSetting wsX5_putSetting) := goodIn_app (goodIn_of _ (by decide +kernel)) ggX5_doneOne_X5_putSetting
theorem dX5_doneOne_0 : decode cX5_doneOne 0 = .ok (.aload_n 0, 1) := by decide +kernel
theorem dX5_doneOne_1 : decode cX5_doneOne 1 = .ok (.getfield 28, 3) := by decide +kernel
theorem dX5_doneOne_4 : decode cX5_doneOne 4 = .ok (.iconst 4, 1) := by decide +kernel
theorem dX5_doneOne_5 : decode cX5_doneOne 5 = .ok (.iload_n 1, 1) := by decide +kernel
theorem dX5_doneOne_6 : decode cX5_doneOne 6 = .ok (.imul, 1) := by decide +kernel
theorem dX5_doneOne_7 : decode cX5_doneOne 7 = .ok (.iaload, 1) := by decide +kernel
theorem dX5_doneOne_8 : decode cX5_doneOne 8 = .ok (.istore_n 2, 1) := by decide +kernel
theorem dX5_doneOne_9 : decode cX5_doneOne 9 = .ok (.aload_n 0, 1) := by decide +kernel
theorem dX5_doneOne_10 : decode cX5_doneOne 10 = .ok (.getfield 28, 3) := by decide +kernel
theorem dX5_doneOne_13 : decode cX5_doneOne 13 = .ok (.iconst 4, 1) := by decide +kernel
theorem dX5_doneOne_14 : decode cX5_doneOne 14 = .ok (.iload_n 1, 1) := by decide +kernel
theorem dX5_doneOne_15 : decode cX5_doneOne 15 = .ok (.imul, 1) := by decide +kernel
theorem dX5_doneOne_16 : decode cX5_doneOne 16 = .ok (.iconst 1, 1) := by decide +kernel
theorem dX5_doneOne_17 : decode cX5_doneOne 17 = .ok (.iadd, 1) := by decide +kernel
theorem dX5_doneOne_18 : decode cX5_doneOne 18 = .ok (.iaload, 1) := by decide +kernel
theorem dX5_doneOne_19 : decode cX5_doneOne 19 = .ok (.istore_n 3, 1) := by decide +kernel
theorem dX5_doneOne_20 : decode cX5_doneOne 20 = .ok (.aload_n 0, 1) := by decide +kernel
theorem dX5_doneOne_21 : decode cX5_doneOne 21 = .ok (.getfield 28, 3) := by decide +kernel
theorem dX5_doneOne_24 : decode cX5_doneOne 24 = .ok (.iconst 4, 1) := by decide +kernel
theorem dX5_doneOne_25 : decode cX5_doneOne 25 = .ok (.iload_n 1, 1) := by decide +kernel
theorem dX5_doneOne_26 : decode cX5_doneOne 26 = .ok (.imul, 1) := by decide +kernel
theorem dX5_doneOne_27 : decode cX5_doneOne 27 = .ok (.iconst 2, 1) := by decide +kernel
theorem dX5_doneOne_28 : decode cX5_doneOne 28 = .ok (.iadd, 1) := by decide +kernel
theorem dX5_doneOne_29 : decode cX5_doneOne 29 = .ok (.iaload, 1) := by decide +kernel
theorem dX5_doneOne_30 : decode cX5_doneOne 30 = .ok (.istore 4, 2) := by decide +kernel
theorem dX5_doneOne_32 : decode cX5_doneOne 32 = .ok (.aload_n 0, 1) := by decide +kernel
theorem dX5_doneOne_33 : decode cX5_doneOne 33 = .ok (.getfield 28, 3) := by decide +kernel
theorem dX5_doneOne_36 : decode cX5_doneOne 36 = .ok (.iconst 4, 1) := by decide +kernel
theorem dX5_doneOne_37 : decode cX5_doneOne 37 = .ok (.iload_n 1, 1) := by decide +kernel
theorem dX5_doneOne_38 : decode cX5_doneOne 38 = .ok (.imul, 1) := by decide +kernel
theorem dX5_doneOne_39 : decode cX5_doneOne 39 = .ok (.iconst 3, 1) := by decide +kernel
theorem dX5_doneOne_40 : decode cX5_doneOne 40 = .ok (.iadd, 1) := by decide +kernel
theorem dX5_doneOne_41 : decode cX5_doneOne 41 = .ok (.iaload, 1) := by decide +kernel
theorem dX5_doneOne_42 : decode cX5_doneOne 42 = .ok (.istore 5, 2) := by decide +kernel
theorem dX5_doneOne_44 : decode cX5_doneOne 44 = .ok (.aload_n 0, 1) := by decide +kernel
theorem dX5_doneOne_45 : decode cX5_doneOne 45 = .ok (.getfield 25, 3) := by decide +kernel
theorem dX5_doneOne_48 : decode cX5_doneOne 48 = .ok (.iload_n 1, 1) := by decide +kernel
theorem dX5_doneOne_49 : decode cX5_doneOne 49 = .ok (.iaload, 1) := by decide +kernel
theorem dX5_doneOne_50 : decode cX5_doneOne 50 = .ok (.lookupswitch 91 #[(97, 50), (98, 86), (110, 80), (111, 61), (116, 72)], 50) := by decide +kernel
theorem dX5_doneOne_100 : decode cX5_doneOne 100 = .ok (.aload_n 0, 1) := by decide +kernel
theorem dX5_doneOne_101 : decode cX5_doneOne 101 = .ok (.iload_n 2, 1) := by decide +kernel
theorem dX5_doneOne_102 : decode cX5_doneOne 102 = .ok (.iload_n 3, 1) := by decide +kernel
theorem dX5_doneOne_103 : decode cX5_doneOne 103 = .ok (.iload 4, 2) := by decide +kernel
theorem dX5_doneOne_105 : decode cX5_doneOne 105 = .ok (.iload 5, 2) := by decide +kernel
theorem dX5_doneOne_107 : decode cX5_doneOne 107 = .ok (.invokevirtual 167, 3) := by decide +kernel
theorem dX5_doneOne_110 : decode cX5_doneOne 110 = .ok (.ireturn, 1) := by decide +kernel
theorem dX5_doneOne_111 : decode cX5_doneOne 111 = .ok (.aload_n 0, 1) := by decide +kernel
theorem dX5_doneOne_112 : decode cX5_doneOne 112 = .ok (.iload_n 2, 1) := by decide +kernel
theorem dX5_doneOne_113 : decode cX5_doneOne 113 = .ok (.iload_n 3, 1) := by decide +kernel
theorem dX5_doneOne_114 : decode cX5_doneOne 114 = .ok (.iload 4, 2) := by decide +kernel
theorem dX5_doneOne_116 : decode cX5_doneOne 116 = .ok (.iload 5, 2) := by decide +kernel
theorem dX5_doneOne_118 : decode cX5_doneOne 118 = .ok (.invokevirtual 174, 3) := by decide +kernel
theorem dX5_doneOne_121 : decode cX5_doneOne 121 = .ok (.ireturn, 1) := by decide +kernel
theorem dX5_doneOne_122 : decode cX5_doneOne 122 = .ok (.aload_n 0, 1) := by decide +kernel
theorem dX5_doneOne_123 : decode cX5_doneOne 123 = .ok (.iconst 0, 1) := by decide +kernel
theorem dX5_doneOne_124 : decode cX5_doneOne 124 = .ok (.iload_n 2, 1) := by decide +kernel
theorem dX5_doneOne_125 : decode cX5_doneOne 125 = .ok (.iload_n 3, 1) := by decide +kernel
theorem dX5_doneOne_126 : decode cX5_doneOne 126 = .ok (.invokevirtual 180, 3) := by decide +kernel
theorem dX5_doneOne_129 : decode cX5_doneOne 129 = .ok (.ireturn, 1) := by decide +kernel
theorem dX5_doneOne_130 : decode cX5_doneOne 130 = .ok (.aload_n 0, 1) := by decide +kernel
theorem dX5_doneOne_131 : decode cX5_doneOne 131 = .ok (.iload_n 2, 1) := by decide +kernel
theorem dX5_doneOne_132 : decode cX5_doneOne 132 = .ok (.invokevirtual 187, 3) := by decide +kernel
theorem dX5_doneOne_135 : decode cX5_doneOne 135 = .ok (.ireturn, 1) := by decide +kernel
theorem dX5_doneOne_136 : decode cX5_doneOne 136 = .ok (.aload_n 0, 1) := by decide +kernel
theorem dX5_doneOne_137 : decode cX5_doneOne 137 = .ok (.invokevirtual 190, 3) := by decide +kernel
theorem dX5_doneOne_140 : decode cX5_doneOne 140 = .ok (.ireturn, 1) := by decide +kernel
theorem dX5_doneOne_141 : decode cX5_doneOne 141 = .ok (.aload_n 0, 1) := by decide +kernel
theorem dX5_doneOne_142 : decode cX5_doneOne 142 = .ok (.iload_n 2, 1) := by decide +kernel
theorem dX5_doneOne_143 : decode cX5_doneOne 143 = .ok (.iload_n 3, 1) := by decide +kernel
theorem dX5_doneOne_144 : decode cX5_doneOne 144 = .ok (.invokevirtual 184, 3) := by decide +kernel
theorem dX5_doneOne_147 : decode cX5_doneOne 147 = .ok (.ireturn, 1) := by decide +kernel
set_option maxRecDepth 20000 in
theorem ggX5_does_X5_isRead : GoodIn wsX5_does wsX5_isRead := goodIn_r _ [9, 10, 2, 11, 12, 13, 14, 8, 15, 16, 17, 18, 19, 20, 21, 22, 23, 24, 25, 26, 27, 28, 29, 30, 31, 32, 33, 34, 35, 1, 36, 37, 38, 39, 40, 184, 185, 186, 187, 188, 189, 190, 191, 192, 193, 194, 195, 196, 197, 198, 199, 200, 201, 202, 203, 204] (by decide +kernel) (by decide +kernel)
set_option maxRecDepth 20000 in
theorem gX5_does_X5_isRead : GoodIn wsX5_does (wsV RX5 240 RX5 yX5_isRead wsX5_isRead) := goodIn_app (goodIn_of _ (by decide +kernel)) ggX5_does_X5_isRead
set_option maxRecDepth 20000 in
theorem ggX5_does_X5_laysAside : GoodIn wsX5_does wsX5_laysAside := goodIn_r _ [44, 4, 3, 184, 185, 186, 187, 188, 189, 190, 191, 192, 193, 194, 195, 196, 197, 198, 199, 200, 201, 202, 203, 204] (by decide +kernel) (by decide +kernel)
set_option maxRecDepth 20000 in
theorem gX5_does_X5_laysAside : GoodIn wsX5_does (wsV RX5 164 RX5 yX5_laysAside wsX5_laysAside) := goodIn_app (goodIn_of _ (by decide +kernel)) ggX5_does_X5_laysAside
set_option maxRecDepth 20000 in
theorem ggX5_does_X5_doneOne : GoodIn wsX5_does wsX5_doneOne := goodIn_r _ [48, 40, 28, 49, 50, 51, 8, 52, 3, 53, 54, 55, 21, 22, 23, 56, 57, 58, 59, 60, 61, 62, 63, 64, 65, 66, 67, 68, 69, 70, 71, 72, 73, 74, 75, 76, 77, 78, 79, 80, 81, 82, 83, 84, 85, 86, 87, 88, 89, 90, 91, 92, 93, 94, 95, 96, 97, 98, 99, 100, 101, 102, 103, 104, 105, 106, 107, 108, 109, 110, 111, 112, 113, 114, 115, 116, 117, 118, 119, 120, 121, 122, 123, 124, 125, 126, 127, 128, 129, 130, 131, 132, 133, 134, 135, 136, 137, 138, 139, 140, 141, 142, 143, 144, 145, 146, 147, 148, 149, 150, 151, 152, 153, 154, 155, 156, 157, 158, 159, 160, 161, 162, 163, 164, 165, 166, 167, 168, 169, 170, 171, 172, 173, 174, 175, 176, 177, 184, 185, 186, 187, 188, 189, 190, 191, 192, 193, 194, 195, 196, 197, 198, 199, 200, 201, 202, 203, 204] (by decide +kernel) (by decide +kernel)
set_option maxRecDepth 20000 in
theorem gX5_does_X5_doneOne : GoodIn wsX5_does (wsV RX5 243 RX5 yX5_doneOne wsX5_doneOne) := goodIn_app (goodIn_of _ (by decide +kernel)) ggX5_does_X5_doneOne
set_option maxRecDepth 20000 in
theorem ggX5_does_X5_remembers : GoodIn wsX5_does wsX5_remembers := goodIn_r _ [181, 182, 183, 4, 184, 185, 186, 187, 188, 189, 190, 191, 192, 193, 194, 195, 196, 197, 198, 199, 200, 201, 202, 203, 204] (by decide +kernel) (by decide +kernel)
set_option maxRecDepth 20000 in
theorem gX5_does_X5_remembers : GoodIn wsX5_does (wsV RX5 39 RX5 yX5_remembers wsX5_remembers) := goodIn_app (goodIn_of _ (by decide +kernel)) ggX5_does_X5_remembers
theorem dX5_does_0 : decode cX5_does 0 = .ok (.aload_n 0, 1) := by decide +kernel
theorem dX5_does_1 : decode cX5_does 1 = .ok (.invokevirtual 240, 3) := by decide +kernel
theorem dX5_does_4 : decode cX5_does 4 = .ok (.ifCond .ne 11, 3) := by decide +kernel
theorem dX5_does_7 : decode cX5_does 7 = .ok (.bipush (-10), 2) := by decide +kernel
theorem dX5_does_9 : decode cX5_does 9 = .ok (.aload_n 0, 1) := by decide +kernel
theorem dX5_does_10 : decode cX5_does 10 = .ok (.getfield 218, 3) := by decide +kernel
theorem dX5_does_13 : decode cX5_does 13 = .ok (.isub, 1) := by decide +kernel
theorem dX5_does_14 : decode cX5_does 14 = .ok (.ireturn, 1) := by decide +kernel
theorem dX5_does_15 : decode cX5_does 15 = .ok (.aload_n 0, 1) := by decide +kernel
theorem dX5_does_16 : decode cX5_does 16 = .ok (.invokevirtual 164, 3) := by decide +kernel
theorem dX5_does_19 : decode cX5_does 19 = .ok (.iconst 0, 1) := by decide +kernel
theorem dX5_does_20 : decode cX5_does 20 = .ok (.istore_n 1, 1) := by decide +kernel
theorem dX5_does_21 : decode cX5_does 21 = .ok (.iload_n 1, 1) := by decide +kernel
theorem dX5_does_22 : decode cX5_does 22 = .ok (.aload_n 0, 1) := by decide +kernel
theorem dX5_does_23 : decode cX5_does 23 = .ok (.getfield 230, 3) := by decide +kernel
theorem dX5_does_26 : decode cX5_does 26 = .ok (.if_icmp .ge 52, 3) := by decide +kernel
theorem dX5_does_29 : decode cX5_does 29 = .ok (.aload_n 0, 1) := by decide +kernel
theorem dX5_does_30 : decode cX5_does 30 = .ok (.iload_n 1, 1) := by decide +kernel
theorem dX5_does_31 : decode cX5_does 31 = .ok (.invokevirtual 243, 3) := by decide +kernel
theorem dX5_does_34 : decode cX5_does 34 = .ok (.sipush (-10002), 3) := by decide +kernel
theorem dX5_does_37 : decode cX5_does 37 = .ok (.if_icmp .gt 35, 3) := by decide +kernel
theorem dX5_does_40 : decode cX5_does 40 = .ok (.iconst 0, 1) := by decide +kernel
theorem dX5_does_41 : decode cX5_does 41 = .ok (.istore_n 2, 1) := by decide +kernel
theorem dX5_does_42 : decode cX5_does 42 = .ok (.iload_n 2, 1) := by decide +kernel
theorem dX5_does_43 : decode cX5_does 43 = .ok (.bipush 39, 2) := by decide +kernel
theorem dX5_does_45 : decode cX5_does 45 = .ok (.if_icmp .ge 21, 3) := by decide +kernel
theorem dX5_does_48 : decode cX5_does 48 = .ok (.aload_n 0, 1) := by decide +kernel
theorem dX5_does_49 : decode cX5_does 49 = .ok (.getfield 7, 3) := by decide +kernel
theorem dX5_does_52 : decode cX5_does 52 = .ok (.iload_n 2, 1) := by decide +kernel
theorem dX5_does_53 : decode cX5_does 53 = .ok (.aload_n 0, 1) := by decide +kernel
theorem dX5_does_54 : decode cX5_does 54 = .ok (.getfield 13, 3) := by decide +kernel
theorem dX5_does_57 : decode cX5_does 57 = .ok (.iload_n 2, 1) := by decide +kernel
theorem dX5_does_58 : decode cX5_does 58 = .ok (.iaload, 1) := by decide +kernel
theorem dX5_does_59 : decode cX5_does 59 = .ok (.iastore, 1) := by decide +kernel
theorem dX5_does_60 : decode cX5_does 60 = .ok (.iinc 2 1, 3) := by decide +kernel
theorem dX5_does_63 : decode cX5_does 63 = .ok (.goto (-21), 3) := by decide +kernel
theorem dX5_does_66 : decode cX5_does 66 = .ok (.sipush (-1000), 3) := by decide +kernel
theorem dX5_does_69 : decode cX5_does 69 = .ok (.iload_n 1, 1) := by decide +kernel
theorem dX5_does_70 : decode cX5_does 70 = .ok (.isub, 1) := by decide +kernel
theorem dX5_does_71 : decode cX5_does 71 = .ok (.ireturn, 1) := by decide +kernel
theorem dX5_does_72 : decode cX5_does 72 = .ok (.iinc 1 1, 3) := by decide +kernel
theorem dX5_does_75 : decode cX5_does 75 = .ok (.goto (-54), 3) := by decide +kernel
theorem dX5_does_78 : decode cX5_does 78 = .ok (.aload_n 0, 1) := by decide +kernel
theorem dX5_does_79 : decode cX5_does 79 = .ok (.invokevirtual 39, 3) := by decide +kernel
theorem dX5_does_82 : decode cX5_does 82 = .ok (.aload_n 0, 1) := by decide +kernel
theorem dX5_does_83 : decode cX5_does 83 = .ok (.getfield 230, 3) := by decide +kernel
theorem dX5_does_86 : decode cX5_does 86 = .ok (.ireturn, 1) := by decide +kernel
theorem dX5_toldOf_0 : decode cX5_toldOf 0 = .ok (.iload_n 1, 1) := by decide +kernel
theorem dX5_toldOf_1 : decode cX5_toldOf 1 = .ok (.iconst 3, 1) := by decide +kernel
theorem dX5_toldOf_2 : decode cX5_toldOf 2 = .ok (.if_icmp .ge 12, 3) := by decide +kernel
theorem dX5_toldOf_5 : decode cX5_toldOf 5 = .ok (.aload_n 0, 1) := by decide +kernel
theorem dX5_toldOf_6 : decode cX5_toldOf 6 = .ok (.getfield 19, 3) := by decide +kernel
theorem dX5_toldOf_9 : decode cX5_toldOf 9 = .ok (.iload_n 1, 1) := by decide +kernel
theorem dX5_toldOf_10 : decode cX5_toldOf 10 = .ok (.iaload, 1) := by decide +kernel
theorem dX5_toldOf_11 : decode cX5_toldOf 11 = .ok (.goto 19, 3) := by decide +kernel
theorem dX5_toldOf_14 : decode cX5_toldOf 14 = .ok (.iload_n 1, 1) := by decide +kernel
theorem dX5_toldOf_15 : decode cX5_toldOf 15 = .ok (.iconst 3, 1) := by decide +kernel
theorem dX5_toldOf_16 : decode cX5_toldOf 16 = .ok (.if_icmp .ne 10, 3) := by decide +kernel
theorem dX5_toldOf_19 : decode cX5_toldOf 19 = .ok (.aload_n 0, 1) := by decide +kernel
theorem dX5_toldOf_20 : decode cX5_toldOf 20 = .ok (.getfield 209, 3) := by decide +kernel
theorem dX5_toldOf_23 : decode cX5_toldOf 23 = .ok (.goto 7, 3) := by decide +kernel
theorem dX5_toldOf_26 : decode cX5_toldOf 26 = .ok (.aload_n 0, 1) := by decide +kernel
theorem dX5_toldOf_27 : decode cX5_toldOf 27 = .ok (.getfield 31, 3) := by decide +kernel
theorem dX5_toldOf_30 : decode cX5_toldOf 30 = .ok (.ireturn, 1) := by decide +kernel
set_option maxRecDepth 20000 in
theorem ggX5_told_X5_in : GoodIn wsX5_told wsX5_in := goodIn_r _ [4] (by decide +kernel) (by decide +kernel)
set_option maxRecDepth 20000 in
theorem gX5_told_X5_in : GoodIn wsX5_told (va_wsS RX5 42 yX5_in wsX5_in) := goodIn_app (goodIn_of _ (by decide +kernel)) ggX5_told_X5_in
set_option maxRecDepth 20000 in
theorem ggX5_told_X5_toldOf : GoodIn wsX5_told wsX5_toldOf := goodIn_r _ [8, 9, 10, 11, 16, 17, 18, 19, 20, 21, 22, 23, 24, 25, 26, 27, 28, 29, 30, 31, 32, 33, 34, 35, 36] (by decide +kernel) (by decide +kernel)
set_option maxRecDepth 20000 in
theorem gX5_told_X5_toldOf : GoodIn wsX5_told (wsV RX5 246 RX5 yX5_toldOf wsX5_toldOf) := goodIn_app (goodIn_of _ (by decide +kernel)) ggX5_told_X5_toldOf
set_option maxRecDepth 20000 in
theorem ggX5_told_X5_refuses : GoodIn wsX5_told wsX5_refuses := goodIn_r _ [15, 9, 16, 17, 18, 19, 20, 21, 22, 23, 24, 25, 26, 27, 28, 29, 30, 31, 32, 33, 34, 35, 36] (by decide +kernel) (by decide +kernel)
set_option maxRecDepth 20000 in
theorem gX5_told_X5_refuses : GoodIn wsX5_told (wsV RX5 35 RX5 yX5_refuses wsX5_refuses) := goodIn_app (goodIn_of _ (by decide +kernel)) ggX5_told_X5_refuses
theorem dX5_told_0 : decode cX5_told 0 = .ok (.iload_n 1, 1) := by decide +kernel
theorem dX5_told_1 : decode cX5_told 1 = .ok (.iconst 0, 1) := by decide +kernel
theorem dX5_told_2 : decode cX5_told 2 = .ok (.iconst 4, 1) := by decide +kernel
theorem dX5_told_3 : decode cX5_told 3 = .ok (.invokestatic 42, 3) := by decide +kernel
theorem dX5_told_6 : decode cX5_told 6 = .ok (.ifCond .eq 11, 3) := by decide +kernel
theorem dX5_told_9 : decode cX5_told 9 = .ok (.aload_n 0, 1) := by decide +kernel
theorem dX5_told_10 : decode cX5_told 10 = .ok (.iload_n 1, 1) := by decide +kernel
theorem dX5_told_11 : decode cX5_told 11 = .ok (.invokevirtual 246, 3) := by decide +kernel
theorem dX5_told_14 : decode cX5_told 14 = .ok (.goto 10, 3) := by decide +kernel
theorem dX5_told_17 : decode cX5_told 17 = .ok (.aload_n 0, 1) := by decide +kernel
end
section
theorem dX5_told_18 : decode cX5_told 18 = .ok (.sipush (-10002), 3) := by decide +kernel
theorem dX5_told_21 : decode cX5_told 21 = .ok (.invokevirtual 35, 3) := by decide +kernel
theorem dX5_told_24 : decode cX5_told 24 = .ok (.ireturn, 1) := by decide +kernel
theorem dX5_mix_0 : decode cX5_mix 0 = .ok (.aload_n 0, 1) := by decide +kernel
theorem dX5_mix_1 : decode cX5_mix 1 = .ok (.ldc2_w 249, 3) := by decide +kernel
theorem dX5_mix_4 : decode cX5_mix 4 = .ok (.aload_n 0, 1) := by decide +kernel
theorem dX5_mix_5 : decode cX5_mix 5 = .ok (.getfield 251, 3) := by decide +kernel
theorem dX5_mix_8 : decode cX5_mix 8 = .ok (.lmul, 1) := by decide +kernel
theorem dX5_mix_9 : decode cX5_mix 9 = .ok (.lload_n 1, 1) := by decide +kernel
theorem dX5_mix_10 : decode cX5_mix 10 = .ok (.ladd, 1) := by decide +kernel
theorem dX5_mix_11 : decode cX5_mix 11 = .ok (.putfield 251, 3) := by decide +kernel
theorem dX5_mix_14 : decode cX5_mix 14 = .ok (.return_, 1) := by decide +kernel
set_option maxRecDepth 20000 in
theorem ggX5_digest_X5_toldOf : GoodIn wsX5_digest wsX5_toldOf := goodIn_r _ [8, 9, 10, 11, 116, 117, 118, 119, 120, 121, 122, 123, 124, 125, 126, 127, 128, 129, 130, 131, 132, 133, 134, 135, 136] (by decide +kernel) (by decide +kernel)
set_option maxRecDepth 20000 in
theorem gX5_digest_X5_toldOf : GoodIn wsX5_digest (wsV RX5 246 RX5 yX5_toldOf wsX5_toldOf) := goodIn_app (goodIn_of _ (by decide +kernel)) ggX5_digest_X5_toldOf
set_option maxRecDepth 20000 in
theorem ggX5_digest_X5_mix : GoodIn wsX5_digest wsX5_mix := goodIn_r _ [15, 16, 2, 116, 117, 118, 119, 120, 121, 122, 123, 124, 125, 126, 127, 128, 129, 130, 131, 132, 133, 134, 135, 136] (by decide +kernel) (by decide +kernel)
set_option maxRecDepth 20000 in
theorem gX5_digest_X5_mix : GoodIn wsX5_digest (wsV RX5 256 RX5 yX5_mix wsX5_mix) := goodIn_app (goodIn_of _ (by decide +kernel)) ggX5_digest_X5_mix
set_option maxRecDepth 20000 in
theorem ggX5_digest_X5_countOf : GoodIn wsX5_digest wsX5_countOf := goodIn_r _ [20, 3, 116, 117, 118, 119, 120, 121, 122, 123, 124, 125, 126, 127, 128, 129, 130, 131, 132, 133, 134, 135, 136] (by decide +kernel) (by decide +kernel)
set_option maxRecDepth 20000 in
theorem gX5_digest_X5_countOf : GoodIn wsX5_digest (wsV RX5 206 RX5 yX5_countOf wsX5_countOf) := goodIn_app (goodIn_of _ (by decide +kernel)) ggX5_digest_X5_countOf
set_option maxRecDepth 20000 in
theorem ggX5_digest_X5_told0 : GoodIn wsX5_digest wsX5_told0 := goodIn_r _ [24, 25, 26, 27, 7, 28, 3, 29, 30, 31, 32, 33, 34, 35, 36, 37, 38, 39, 40, 41, 42, 116, 117, 118, 119, 120, 121, 122, 123, 124, 125, 126, 127, 128, 129, 130, 131, 132, 133, 134, 135, 136] (by decide +kernel) (by decide +kernel)
set_option maxRecDepth 20000 in
theorem gX5_digest_X5_told0 : GoodIn wsX5_digest (wsV RX5 193 RX5 yX5_told0 wsX5_told0) := goodIn_app (goodIn_of _ (by decide +kernel)) ggX5_digest_X5_told0
set_option maxRecDepth 20000 in
theorem ggX5_digest_X5_adviceFor : GoodIn wsX5_digest wsX5_adviceFor := goodIn_r _ [46, 25, 26, 27, 7, 28, 3, 47, 48, 49, 50, 51, 52, 53, 54, 55, 56, 57, 58, 59, 60, 61, 62, 63, 64, 65, 66, 67, 68, 69, 70, 33, 34, 35, 36, 37, 38, 71, 72, 73, 74, 75, 76, 77, 78, 79, 80, 81, 82, 83, 84, 85, 86, 87, 88, 89, 90, 91, 92, 93, 94, 95, 96, 97, 98, 99, 100, 101, 102, 103, 116, 117, 118, 119, 120, 121, 122, 123, 124, 125, 126, 127, 128, 129, 130, 131, 132, 133, 134, 135, 136] (by decide +kernel) (by decide +kernel)
set_option maxRecDepth 20000 in
theorem gX5_digest_X5_adviceFor : GoodIn wsX5_digest (wsV RX5 161 RX5 yX5_adviceFor wsX5_adviceFor) := goodIn_app (goodIn_of _ (by decide +kernel)) ggX5_digest_X5_adviceFor
set_option maxRecDepth 20000 in
theorem ggX5_digest_X5_shipOf : GoodIn wsX5_digest wsX5_shipOf := goodIn_r _ [28, 3, 116, 117, 118, 119, 120, 121, 122, 123, 124, 125, 126, 127, 128, 129, 130, 131, 132, 133, 134, 135, 136] (by decide +kernel) (by decide +kernel)
set_option maxRecDepth 20000 in
theorem gX5_digest_X5_shipOf : GoodIn wsX5_digest (wsV RX5 53 RX5 yX5_shipOf wsX5_shipOf) := goodIn_app (goodIn_of _ (by decide +kernel)) ggX5_digest_X5_shipOf
set_option maxRecDepth 20000 in
theorem ggX5_digest_X5_closestOf : GoodIn wsX5_digest wsX5_closestOf := goodIn_r _ [107, 77, 78, 75, 76, 59, 60, 61, 7, 62, 25, 26, 27, 28, 3, 63, 64, 65, 66, 67, 68, 69, 70, 33, 34, 35, 36, 37, 38, 79, 80, 81, 82, 83, 84, 85, 86, 87, 88, 89, 90, 91, 92, 93, 116, 117, 118, 119, 120, 121, 122, 123, 124, 125, 126, 127, 128, 129, 130, 131, 132, 133, 134, 135, 136] (by decide +kernel) (by decide +kernel)
set_option maxRecDepth 20000 in
theorem gX5_digest_X5_closestOf : GoodIn wsX5_digest (wsV RX5 199 RX5 yX5_closestOf wsX5_closestOf) := goodIn_app (goodIn_of _ (by decide +kernel)) ggX5_digest_X5_closestOf
set_option maxRecDepth 20000 in
theorem ggX5_digest_X5_sectorOf : GoodIn wsX5_digest wsX5_sectorOf := goodIn_r _ [97, 67, 68, 98, 99, 59, 60, 61, 7, 62, 25, 26, 27, 28, 3, 63, 64, 65, 66, 69, 70, 33, 34, 35, 36, 37, 38, 87, 88, 89, 90, 116, 117, 118, 119, 120, 121, 122, 123, 124, 125, 126, 127, 128, 129, 130, 131, 132, 133, 134, 135, 136] (by decide +kernel) (by decide +kernel)
set_option maxRecDepth 20000 in
theorem gX5_digest_X5_sectorOf : GoodIn wsX5_digest (wsV RX5 119 RX5 yX5_sectorOf wsX5_sectorOf) := goodIn_app (goodIn_of _ (by decide +kernel)) ggX5_digest_X5_sectorOf
set_option maxRecDepth 20000 in
theorem ggX5_digest_X5_blockedBy : GoodIn wsX5_digest wsX5_blockedBy := goodIn_r _ [111, 25, 26, 27, 7, 28, 3, 63, 64, 65, 66, 67, 68, 69, 70, 33, 34, 35, 36, 37, 38, 71, 72, 73, 74, 75, 76, 77, 78, 79, 80, 81, 82, 83, 84, 85, 86, 87, 88, 89, 90, 91, 92, 93, 116, 117, 118, 119, 120, 121, 122, 123, 124, 125, 126, 127, 128, 129, 130, 131, 132, 133, 134, 135, 136] (by decide +kernel) (by decide +kernel)
set_option maxRecDepth 20000 in
theorem gX5_digest_X5_blockedBy : GoodIn wsX5_digest (wsV RX5 203 RX5 yX5_blockedBy wsX5_blockedBy) := goodIn_app (goodIn_of _ (by decide +kernel)) ggX5_digest_X5_blockedBy
set_option maxRecDepth 20000 in
theorem ggX5_digest_X5_worst : GoodIn wsX5_digest wsX5_worst := goodIn_r _ [115, 3, 77, 78, 75, 76, 55, 56, 57, 7, 58, 59, 60, 61, 62, 25, 26, 27, 28, 63, 64, 65, 66, 67, 68, 69, 70, 33, 34, 35, 36, 37, 38, 71, 72, 73, 74, 79, 80, 81, 82, 83, 84, 85, 86, 87, 88, 89, 90, 91, 92, 93, 116, 117, 118, 119, 120, 121, 122, 123, 124, 125, 126, 127, 128, 129, 130, 131, 132, 133, 134, 135, 136] (by decide +kernel) (by decide +kernel)
set_option maxRecDepth 20000 in
theorem gX5_digest_X5_worst : GoodIn wsX5_digest (wsV RX5 260 RX5 yX5_worst wsX5_worst) := goodIn_app (goodIn_of _ (by decide +kernel)) ggX5_digest_X5_worst
theorem dX5_digest_0 : decode cX5_digest 0 = .ok (.aload_n 0, 1) := by decide +kernel
theorem dX5_digest_1 : decode cX5_digest 1 = .ok (.ldc2_w 254, 3) := by decide +kernel
theorem dX5_digest_4 : decode cX5_digest 4 = .ok (.putfield 251, 3) := by decide +kernel
theorem dX5_digest_7 : decode cX5_digest 7 = .ok (.iconst 0, 1) := by decide +kernel
theorem dX5_digest_8 : decode cX5_digest 8 = .ok (.istore_n 1, 1) := by decide +kernel
theorem dX5_digest_9 : decode cX5_digest 9 = .ok (.iload_n 1, 1) := by decide +kernel
theorem dX5_digest_10 : decode cX5_digest 10 = .ok (.iconst 5, 1) := by decide +kernel
theorem dX5_digest_11 : decode cX5_digest 11 = .ok (.if_icmp .ge 19, 3) := by decide +kernel
theorem dX5_digest_14 : decode cX5_digest 14 = .ok (.aload_n 0, 1) := by decide +kernel
theorem dX5_digest_15 : decode cX5_digest 15 = .ok (.aload_n 0, 1) := by decide +kernel
theorem dX5_digest_16 : decode cX5_digest 16 = .ok (.iload_n 1, 1) := by decide +kernel
theorem dX5_digest_17 : decode cX5_digest 17 = .ok (.invokevirtual 246, 3) := by decide +kernel
theorem dX5_digest_20 : decode cX5_digest 20 = .ok (.i2l, 1) := by decide +kernel
theorem dX5_digest_21 : decode cX5_digest 21 = .ok (.invokevirtual 256, 3) := by decide +kernel
theorem dX5_digest_24 : decode cX5_digest 24 = .ok (.iinc 1 1, 3) := by decide +kernel
theorem dX5_digest_27 : decode cX5_digest 27 = .ok (.goto (-18), 3) := by decide +kernel
theorem dX5_digest_30 : decode cX5_digest 30 = .ok (.iconst 0, 1) := by decide +kernel
theorem dX5_digest_31 : decode cX5_digest 31 = .ok (.istore_n 1, 1) := by decide +kernel
theorem dX5_digest_32 : decode cX5_digest 32 = .ok (.iload_n 1, 1) := by decide +kernel
theorem dX5_digest_33 : decode cX5_digest 33 = .ok (.iconst 4, 1) := by decide +kernel
theorem dX5_digest_34 : decode cX5_digest 34 = .ok (.if_icmp .ge 19, 3) := by decide +kernel
theorem dX5_digest_37 : decode cX5_digest 37 = .ok (.aload_n 0, 1) := by decide +kernel
theorem dX5_digest_38 : decode cX5_digest 38 = .ok (.aload_n 0, 1) := by decide +kernel
theorem dX5_digest_39 : decode cX5_digest 39 = .ok (.iload_n 1, 1) := by decide +kernel
theorem dX5_digest_40 : decode cX5_digest 40 = .ok (.invokevirtual 206, 3) := by decide +kernel
theorem dX5_digest_43 : decode cX5_digest 43 = .ok (.i2l, 1) := by decide +kernel
theorem dX5_digest_44 : decode cX5_digest 44 = .ok (.invokevirtual 256, 3) := by decide +kernel
theorem dX5_digest_47 : decode cX5_digest 47 = .ok (.iinc 1 1, 3) := by decide +kernel
theorem dX5_digest_50 : decode cX5_digest 50 = .ok (.goto (-18), 3) := by decide +kernel
theorem dX5_digest_53 : decode cX5_digest 53 = .ok (.iconst 0, 1) := by decide +kernel
theorem dX5_digest_54 : decode cX5_digest 54 = .ok (.istore_n 1, 1) := by decide +kernel
theorem dX5_digest_55 : decode cX5_digest 55 = .ok (.iload_n 1, 1) := by decide +kernel
theorem dX5_digest_56 : decode cX5_digest 56 = .ok (.aload_n 0, 1) := by decide +kernel
theorem dX5_digest_57 : decode cX5_digest 57 = .ok (.getfield 7, 3) := by decide +kernel
theorem dX5_digest_60 : decode cX5_digest 60 = .ok (.iconst 0, 1) := by decide +kernel
theorem dX5_digest_61 : decode cX5_digest 61 = .ok (.iaload, 1) := by decide +kernel
theorem dX5_digest_62 : decode cX5_digest 62 = .ok (.if_icmp .ge 43, 3) := by decide +kernel
theorem dX5_digest_65 : decode cX5_digest 65 = .ok (.iconst 0, 1) := by decide +kernel
theorem dX5_digest_66 : decode cX5_digest 66 = .ok (.istore_n 2, 1) := by decide +kernel
theorem dX5_digest_67 : decode cX5_digest 67 = .ok (.iload_n 2, 1) := by decide +kernel
theorem dX5_digest_68 : decode cX5_digest 68 = .ok (.iconst 4, 1) := by decide +kernel
theorem dX5_digest_69 : decode cX5_digest 69 = .ok (.if_icmp .ge 20, 3) := by decide +kernel
theorem dX5_digest_72 : decode cX5_digest 72 = .ok (.aload_n 0, 1) := by decide +kernel
theorem dX5_digest_73 : decode cX5_digest 73 = .ok (.aload_n 0, 1) := by decide +kernel
theorem dX5_digest_74 : decode cX5_digest 74 = .ok (.iload_n 1, 1) := by decide +kernel
theorem dX5_digest_75 : decode cX5_digest 75 = .ok (.iload_n 2, 1) := by decide +kernel
theorem dX5_digest_76 : decode cX5_digest 76 = .ok (.invokevirtual 193, 3) := by decide +kernel
theorem dX5_digest_79 : decode cX5_digest 79 = .ok (.i2l, 1) := by decide +kernel
theorem dX5_digest_80 : decode cX5_digest 80 = .ok (.invokevirtual 256, 3) := by decide +kernel
theorem dX5_digest_83 : decode cX5_digest 83 = .ok (.iinc 2 1, 3) := by decide +kernel
theorem dX5_digest_86 : decode cX5_digest 86 = .ok (.goto (-19), 3) := by decide +kernel
theorem dX5_digest_89 : decode cX5_digest 89 = .ok (.aload_n 0, 1) := by decide +kernel
theorem dX5_digest_90 : decode cX5_digest 90 = .ok (.aload_n 0, 1) := by decide +kernel
theorem dX5_digest_91 : decode cX5_digest 91 = .ok (.iload_n 1, 1) := by decide +kernel
theorem dX5_digest_92 : decode cX5_digest 92 = .ok (.invokevirtual 161, 3) := by decide +kernel
theorem dX5_digest_95 : decode cX5_digest 95 = .ok (.i2l, 1) := by decide +kernel
theorem dX5_digest_96 : decode cX5_digest 96 = .ok (.invokevirtual 256, 3) := by decide +kernel
theorem dX5_digest_99 : decode cX5_digest 99 = .ok (.iinc 1 1, 3) := by decide +kernel
theorem dX5_digest_102 : decode cX5_digest 102 = .ok (.goto (-47), 3) := by decide +kernel
theorem dX5_digest_105 : decode cX5_digest 105 = .ok (.iconst 1, 1) := by decide +kernel
theorem dX5_digest_106 : decode cX5_digest 106 = .ok (.istore_n 1, 1) := by decide +kernel
theorem dX5_digest_107 : decode cX5_digest 107 = .ok (.iload_n 1, 1) := by decide +kernel
theorem dX5_digest_108 : decode cX5_digest 108 = .ok (.aload_n 0, 1) := by decide +kernel
theorem dX5_digest_109 : decode cX5_digest 109 = .ok (.getfield 7, 3) := by decide +kernel
theorem dX5_digest_112 : decode cX5_digest 112 = .ok (.iconst 0, 1) := by decide +kernel
theorem dX5_digest_113 : decode cX5_digest 113 = .ok (.iaload, 1) := by decide +kernel
theorem dX5_digest_114 : decode cX5_digest 114 = .ok (.if_icmp .ge 76, 3) := by decide +kernel
theorem dX5_digest_117 : decode cX5_digest 117 = .ok (.aload_n 0, 1) := by decide +kernel
theorem dX5_digest_118 : decode cX5_digest 118 = .ok (.aload_n 0, 1) := by decide +kernel
theorem dX5_digest_119 : decode cX5_digest 119 = .ok (.iload_n 1, 1) := by decide +kernel
theorem dX5_digest_120 : decode cX5_digest 120 = .ok (.iconst 4, 1) := by decide +kernel
theorem dX5_digest_121 : decode cX5_digest 121 = .ok (.invokevirtual 53, 3) := by decide +kernel
theorem dX5_digest_124 : decode cX5_digest 124 = .ok (.i2l, 1) := by decide +kernel
theorem dX5_digest_125 : decode cX5_digest 125 = .ok (.invokevirtual 256, 3) := by decide +kernel
theorem dX5_digest_128 : decode cX5_digest 128 = .ok (.iconst 0, 1) := by decide +kernel
theorem dX5_digest_129 : decode cX5_digest 129 = .ok (.istore_n 2, 1) := by decide +kernel
theorem dX5_digest_130 : decode cX5_digest 130 = .ok (.iload_n 2, 1) := by decide +kernel
theorem dX5_digest_131 : decode cX5_digest 131 = .ok (.iconst 4, 1) := by decide +kernel
theorem dX5_digest_132 : decode cX5_digest 132 = .ok (.if_icmp .ge 20, 3) := by decide +kernel
theorem dX5_digest_135 : decode cX5_digest 135 = .ok (.aload_n 0, 1) := by decide +kernel
theorem dX5_digest_136 : decode cX5_digest 136 = .ok (.aload_n 0, 1) := by decide +kernel
theorem dX5_digest_137 : decode cX5_digest 137 = .ok (.iconst 0, 1) := by decide +kernel
theorem dX5_digest_138 : decode cX5_digest 138 = .ok (.iload_n 1, 1) := by decide +kernel
theorem dX5_digest_139 : decode cX5_digest 139 = .ok (.iload_n 2, 1) := by decide +kernel
theorem dX5_digest_140 : decode cX5_digest 140 = .ok (.invokevirtual 199, 3) := by decide +kernel
theorem dX5_digest_143 : decode cX5_digest 143 = .ok (.invokevirtual 256, 3) := by decide +kernel
theorem dX5_digest_146 : decode cX5_digest 146 = .ok (.iinc 2 1, 3) := by decide +kernel
theorem dX5_digest_149 : decode cX5_digest 149 = .ok (.goto (-19), 3) := by decide +kernel
theorem dX5_digest_152 : decode cX5_digest 152 = .ok (.aload_n 0, 1) := by decide +kernel
theorem dX5_digest_153 : decode cX5_digest 153 = .ok (.aload_n 0, 1) := by decide +kernel
theorem dX5_digest_154 : decode cX5_digest 154 = .ok (.iconst 0, 1) := by decide +kernel
theorem dX5_digest_155 : decode cX5_digest 155 = .ok (.iload_n 1, 1) := by decide +kernel
theorem dX5_digest_156 : decode cX5_digest 156 = .ok (.invokevirtual 119, 3) := by decide +kernel
theorem dX5_digest_159 : decode cX5_digest 159 = .ok (.i2l, 1) := by decide +kernel
theorem dX5_digest_160 : decode cX5_digest 160 = .ok (.invokevirtual 256, 3) := by decide +kernel
theorem dX5_digest_163 : decode cX5_digest 163 = .ok (.aload_n 0, 1) := by decide +kernel
theorem dX5_digest_164 : decode cX5_digest 164 = .ok (.aload_n 0, 1) := by decide +kernel
theorem dX5_digest_165 : decode cX5_digest 165 = .ok (.iload_n 1, 1) := by decide +kernel
theorem dX5_digest_166 : decode cX5_digest 166 = .ok (.iconst 0, 1) := by decide +kernel
theorem dX5_digest_167 : decode cX5_digest 167 = .ok (.invokevirtual 119, 3) := by decide +kernel
theorem dX5_digest_170 : decode cX5_digest 170 = .ok (.i2l, 1) := by decide +kernel
theorem dX5_digest_171 : decode cX5_digest 171 = .ok (.invokevirtual 256, 3) := by decide +kernel
theorem dX5_digest_174 : decode cX5_digest 174 = .ok (.aload_n 0, 1) := by decide +kernel
theorem dX5_digest_175 : decode cX5_digest 175 = .ok (.aload_n 0, 1) := by decide +kernel
theorem dX5_digest_176 : decode cX5_digest 176 = .ok (.iload_n 1, 1) := by decide +kernel
theorem dX5_digest_177 : decode cX5_digest 177 = .ok (.invokevirtual 203, 3) := by decide +kernel
theorem dX5_digest_180 : decode cX5_digest 180 = .ok (.i2l, 1) := by decide +kernel
theorem dX5_digest_181 : decode cX5_digest 181 = .ok (.invokevirtual 256, 3) := by decide +kernel
theorem dX5_digest_184 : decode cX5_digest 184 = .ok (.iinc 1 1, 3) := by decide +kernel
theorem dX5_digest_187 : decode cX5_digest 187 = .ok (.goto (-80), 3) := by decide +kernel
theorem dX5_digest_190 : decode cX5_digest 190 = .ok (.aload_n 0, 1) := by decide +kernel
theorem dX5_digest_191 : decode cX5_digest 191 = .ok (.aload_n 0, 1) := by decide +kernel
theorem dX5_digest_192 : decode cX5_digest 192 = .ok (.invokevirtual 260, 3) := by decide +kernel
theorem dX5_digest_195 : decode cX5_digest 195 = .ok (.i2l, 1) := by decide +kernel
theorem dX5_digest_196 : decode cX5_digest 196 = .ok (.invokevirtual 256, 3) := by decide +kernel
theorem dX5_digest_199 : decode cX5_digest 199 = .ok (.aload_n 0, 1) := by decide +kernel
theorem dX5_digest_200 : decode cX5_digest 200 = .ok (.getfield 251, 3) := by decide +kernel
theorem dX5_digest_203 : decode cX5_digest 203 = .ok (.lreturn, 1) := by decide +kernel
theorem dJ9_abs_0f7a4_0 : decode cJ9_abs_0f7a4 0 = .ok (.iload_n 0, 1) := by decide +kernel
theorem dJ9_abs_0f7a4_1 : decode cJ9_abs_0f7a4 1 = .ok (.ifCond .ge 8, 3) := by decide +kernel
theorem dJ9_abs_0f7a4_4 : decode cJ9_abs_0f7a4 4 = .ok (.iload_n 0, 1) := by decide +kernel
theorem dJ9_abs_0f7a4_5 : decode cJ9_abs_0f7a4 5 = .ok (.ineg, 1) := by decide +kernel
theorem dJ9_abs_0f7a4_6 : decode cJ9_abs_0f7a4 6 = .ok (.goto 4, 3) := by decide +kernel
theorem dJ9_abs_0f7a4_9 : decode cJ9_abs_0f7a4 9 = .ok (.iload_n 0, 1) := by decide +kernel
theorem dJ9_abs_0f7a4_10 : decode cJ9_abs_0f7a4 10 = .ok (.ireturn, 1) := by decide +kernel
abbrev vwCl : List vw_C := [(RX0, TX0, 4), (RX1, TX1, 3), (RX2, TX2, 2), (RX3, TX3, 5), (RX4, TX4, 6), (RX5, TX5, 21)]
end
section
theorem z_fm {α β : Type} {f : α → Option β} : ∀ {is : List α} {w : List β}, is.map f = w.map some → is.filterMap f = w
  | [], [], _ => rfl
  | [], _ :: _, h => by cases h
  | _ :: _, [], h => by cases h
  | i :: is, x :: w, h => by
    simp only [List.map_cons, List.cons.injEq] at h
    rw [List.filterMap_cons, h.1, z_fm h.2]
/-! the shape of the contracts of this claim: one form for every method -/
abbrev zTy (cI cB : ClassId) : List (ClassId × FieldType) := [(cI, .int), (cB, .byte)]
def eEl : List Int32 := [0, 4, 7, 9, 10, 9, 7, 4, 0, -4, -7, -9, -10, -9, -7, -4]
def eNl : List Int32 := [10, 9, 7, 4, 0, -4, -7, -9, -10, -9, -7, -4, 0, 4, 7, 9]
def eE (j : Nat) : Int32 := eEl.getD j 0
def eN (j : Nat) : Int32 := eNl.getD j 0
def zNest : Cond := .methodLinkNest RX1 45 yX4_isCourse RX4
/-- the two tables of the class, and the one link among nest mates -/
def zST (tE tN : Nat) (A : Nat → Prop) (U : State) (H : Heap) : Prop :=
  (va_Z RX1 "EAST" "[I" (.ref tE) A U H ∧ va_T .int tE 16 (fun j => .int (eE j)) A U H) ∧ (va_Z RX1 "NORTH" "[I" (.ref tN) A U H ∧ va_T .int tN 16 (fun j => .int (eN j)) A U H) ∧ va_Nw zNest U
theorem zST.same {tE tN : Nat} {A : Nat → Prop} {u U : State} {H : Heap} (hvm : u.vm = U.vm) (h : zST tE tN A u H) : zST tE tN A U H :=
  ⟨⟨va_Z.moved (hvm ▸ Vm.Alike.refl u.vm) h.1.1, va_T.moved (hvm ▸ Vm.Alike.refl u.vm) h.1.2⟩, ⟨va_Z.moved (hvm ▸ Vm.Alike.refl u.vm) h.2.1.1, va_T.moved (hvm ▸ Vm.Alike.refl u.vm) h.2.1.2⟩, va_Nw.same rfl hvm h.2.2⟩
theorem zST.warm {tE tN : Nat} {A : Nat → Prop} {s U : State} {H : Heap} (hW : s.WarmedH U.vm) (h : zST tE tN A s H) : zST tE tN A U H :=
  ⟨⟨va_Z.moved hW.alike h.1.1, va_T.moved hW.alike h.1.2⟩, ⟨va_Z.moved hW.alike h.2.1.1, va_T.moved hW.alike h.2.1.2⟩, va_Nw.warmM hW h.2.2⟩
theorem zST.kept {tE tN : Nat} {A : Nat → Prop} {U : State} {H H1 : Heap} (h : zST tE tN A U H) (hq : ∀ a : Nat, a < H.size → ¬ A a → H1[a]? = H[a]?) : zST tE tN A U H1 :=
  ⟨⟨h.1.1.kept hq, h.1.2.kept hq⟩, ⟨h.2.1.1.kept hq, h.2.1.2.kept hq⟩, h.2.2⟩
theorem zST.narrow {tE tN : Nat} {A B : Nat → Prop} {U : State} {H : Heap} (h : zST tE tN A U H) (hAB : ∀ q, B q → A q) : zST tE tN B U H :=
  ⟨⟨h.1.1.narrow hAB, h.1.2.narrow hAB⟩, ⟨h.2.1.1.narrow hAB, h.2.1.2.narrow hAB⟩, h.2.2⟩
def zPre (D : va_G) (cI cB : ClassId) (tE tN : Nat) (av : List Value) (wc : va_W) (sz : Nat) : Array Value → State → Prop :=
  va_Pc av (fun U => U.heap.size = sz ∧ va_P D vwCl wc U.heap ∧ va_K D vwCl (zTy cI cB) U ∧ va_D (fun _ => True) wc ∧ zST tE tN (va_A wc sz) U U.heap)
theorem zPre_blind (D : va_G) (cI cB : ClassId) (tE tN : Nat) (av : List Value) (wc : va_W) (sz : Nat) : FrameBlind (zPre D cI cB tE tN av wc sz) := fun a U g mk q => by
  obtain ⟨q0, q1, qP, qK, qD, qT⟩ := q
  exact ⟨q0, q1, qP, va_K.moved (u := U) (U := U.calling g mk a) (Vm.Alike.refl U.vm) qK, qD, qT.same (u := U) (U := U.calling g mk a) rfl⟩
def zB (D : va_G) (cI cB : ClassId) (A : Nat → Prop) (w : va_W) (t : State) : Prop := va_P D vwCl w t.heap ∧ va_K D vwCl (zTy cI cB) t ∧ va_D A w
def zQ {S : Type} (D : va_G) (cI cB : ClassId) (A : Nat → Prop) (res : S → Option Value) (wf : S → va_W) (post : S → Prop) : Array Value → State → Outcome → State → Prop :=
  fun _ st oc t => (∃ u : S, oc = .returned (res u) ∧ post u ∧ zB D cI cB A (wf u) t) ∧ va_F A st t
def zM {S : Type} (l : Launch) (y : MethodName) (ws : List Cond) (rm : Room) (D : va_G) (cI cB : ClassId) (tE tN : Nat) (av : List Value) (wc : va_W) (sz : Nat) (res : S → Option Value) (wf : S → va_W) (post : S → Prop) (mc ms : Nat) : Prop :=
  Met l y ws rm (zPre D cI cB tE tN av wc sz) (zQ D cI cB (va_A wc sz) res wf post) mc ms (va_A wc sz)

abbrev zI {U : Type} (l : Launch) (y : MethodName) (ws : List Cond) (rm : Room) (D : va_G) (cI cB : ClassId) (tE tN : Nat) (av : List Value) (wc : va_W) (sz : Nat) (wf : U → va_W) (post : Int32 → U → Prop) (mc ms : Nat) : Prop := zM (S := Int32 × U) l y ws rm D cI cB tE tN av wc sz (fun v => some (.int v.1)) (fun v => wf v.2) (fun v => post v.1 v.2) mc ms
abbrev zL {U : Type} (l : Launch) (y : MethodName) (ws : List Cond) (rm : Room) (D : va_G) (cI cB : ClassId) (tE tN : Nat) (av : List Value) (wc : va_W) (sz : Nat) (wf : U → va_W) (post : Int64 → U → Prop) (mc ms : Nat) : Prop := zM (S := Int64 × U) l y ws rm D cI cB tE tN av wc sz (fun v => some (.long v.1)) (fun v => wf v.2) (fun v => post v.1 v.2) mc ms
abbrev zV {U : Type} (l : Launch) (y : MethodName) (ws : List Cond) (rm : Room) (D : va_G) (cI cB : ClassId) (tE tN : Nat) (av : List Value) (wc : va_W) (sz : Nat) (wf : U → va_W) (post : U → Prop) (mc ms : Nat) : Prop := zM (S := U) l y ws rm D cI cB tE tN av wc sz (fun v => none) (fun v => wf v) (fun v => post v) mc ms
abbrev zR {U : Type} (l : Launch) (y : MethodName) (ws : List Cond) (rm : Room) (D : va_G) (cI cB : ClassId) (tE tN : Nat) (av : List Value) (wc : va_W) (sz : Nat) (wf : U → va_W) (post : Nat → U → Prop) (mc ms : Nat) : Prop := zM (S := Nat × U) l y ws rm D cI cB tE tN av wc sz (fun v => some (.ref v.1)) (fun v => wf v.2) (fun v => post v.1 v.2) mc ms
theorem zI_mk {U : Type} {l : Launch} {y : MethodName} {ws ws' : List Cond} {rm : Room} {D : va_G} {cI cB : ClassId} {tE tN : Nat} {av : List Value} {wc : va_W} {sz : Nat} {wf : U → va_W} {post : Int32 → U → Prop} {mc ms : Nat} {cc : ByteArray} {maxL : Nat} {rt : FieldType} (hy : plainName y.cls = true) (hw : ws = Cond.code y cc maxL (some rt) :: ws') (hlen : (lg_sl av).length ≤ maxL)
    (body : ∀ (p : Program) (e : Env) (s : State) (m : MethodId) (below : List Frame) (meth : Method) (c : Code) (A : Nat → Prop) (Q : State → Prop) (ls : Array Slot), CallFix p m c cc maxL s av.toArray ws y.cls → meth.name = y.name → (∀ q : Nat, s.heap.size ≤ q → A q) → va_K D vwCl (zTy cI cB) s → va_P D vwCl wc s.heap → va_D A wc → zST tE tN A s s.heap → va_S A s.heap s.heap [] →
      (∀ (r : Int32) (u : U) (H : Heap) (locs : List Loc) (pc : Nat) (ls : Array Slot), narrow rt (.int r) = .int r → post r u → va_P D vwCl (wf u) H → va_D A (wf u) → va_S A s.heap H locs → decode cc pc = .ok (.ireturn, 1) → W p l e rm s m av.toArray below meth c H locs mc ms Q (F0 m pc ls [.int r])) →
      lv_has ls maxL (lv_args 0 av) → W p l e rm s m av.toArray below meth c s.heap [] 0 0 Q (F0 m 0 ls [])) : zI l y ws rm D cI cB tE tN av wc sz wf post mc ms := by
  refine Met.ofW (cc := cc) (maxL := maxL) (ret := (some rt)) hy hw ?_
  intro p e s m args below meth c s₁ B hml hv
  obtain ⟨rfl, hsz, hP, hK, hD0, hT⟩ := hv
  subst hsz
  have hl := lv_entry av (n := maxL) hlen
  rw [lg_entry_eq]
  refine body p e s m below meth c (va_A wc s.heap.size) _ _ ⟨B.exec, B.bytes, hml, findClass_of_methodNamed B.named, atoms_spec (ws := ws) B.pre⟩ (name_of_methodNamed B.named B.method).1 (fun q h => Or.inr h) hK hP hD0.self hT va_S.rf ?_ hl
  intro r u H locs pc ls hn hp hP1 hD1 hS1 hd
  exact W.zret (ty := rt) B.exec B.bytes B.returns hn (fun t ht hW => ⟨⟨(r, u), rfl, hp, by rw [ht]; exact hP1, va_K.moved hW.alike hK, hD1⟩, hS1.F ht⟩) hS1.2.2 hd
theorem zL_mk {U : Type} {l : Launch} {y : MethodName} {ws ws' : List Cond} {rm : Room} {D : va_G} {cI cB : ClassId} {tE tN : Nat} {av : List Value} {wc : va_W} {sz : Nat} {wf : U → va_W} {post : Int64 → U → Prop} {mc ms : Nat} {cc : ByteArray} {maxL : Nat}  (hy : plainName y.cls = true) (hw : ws = Cond.code y cc maxL (some .long) :: ws') (hlen : (lg_sl av).length ≤ maxL)
    (body : ∀ (p : Program) (e : Env) (s : State) (m : MethodId) (below : List Frame) (meth : Method) (c : Code) (A : Nat → Prop) (Q : State → Prop) (ls : Array Slot), CallFix p m c cc maxL s av.toArray ws y.cls → meth.name = y.name → (∀ q : Nat, s.heap.size ≤ q → A q) → va_K D vwCl (zTy cI cB) s → va_P D vwCl wc s.heap → va_D A wc → zST tE tN A s s.heap → va_S A s.heap s.heap [] →
      (∀ (r : Int64) (u : U) (H : Heap) (locs : List Loc) (pc : Nat) (ls : Array Slot), post r u → va_P D vwCl (wf u) H → va_D A (wf u) → va_S A s.heap H locs → decode cc pc = .ok (.lreturn, 1) → W p l e rm s m av.toArray below meth c H locs mc ms Q (F0 m pc ls [.long r])) →
      lv_has ls maxL (lv_args 0 av) → W p l e rm s m av.toArray below meth c s.heap [] 0 0 Q (F0 m 0 ls [])) : zL l y ws rm D cI cB tE tN av wc sz wf post mc ms := by
  refine Met.ofW (cc := cc) (maxL := maxL) (ret := (some .long)) hy hw ?_
  intro p e s m args below meth c s₁ B hml hv
  obtain ⟨rfl, hsz, hP, hK, hD0, hT⟩ := hv
  subst hsz
  have hl := lv_entry av (n := maxL) hlen
  rw [lg_entry_eq]
  refine body p e s m below meth c (va_A wc s.heap.size) _ _ ⟨B.exec, B.bytes, hml, findClass_of_methodNamed B.named, atoms_spec (ws := ws) B.pre⟩ (name_of_methodNamed B.named B.method).1 (fun q h => Or.inr h) hK hP hD0.self hT va_S.rf ?_ hl
  intro r u H locs pc ls hp hP1 hD1 hS1 hd
  exact W.lret (v := r) B.exec B.bytes B.returns (fun t ht hW => ⟨⟨(r, u), rfl, hp, by rw [ht]; exact hP1, va_K.moved hW.alike hK, hD1⟩, hS1.F ht⟩) hS1.2.2 hd
theorem zV_mk {U : Type} {l : Launch} {y : MethodName} {ws ws' : List Cond} {rm : Room} {D : va_G} {cI cB : ClassId} {tE tN : Nat} {av : List Value} {wc : va_W} {sz : Nat} {wf : U → va_W} {post : U → Prop} {mc ms : Nat} {cc : ByteArray} {maxL : Nat}  (hy : plainName y.cls = true) (hw : ws = Cond.code y cc maxL none :: ws') (hlen : (lg_sl av).length ≤ maxL)
    (body : ∀ (p : Program) (e : Env) (s : State) (m : MethodId) (below : List Frame) (meth : Method) (c : Code) (A : Nat → Prop) (Q : State → Prop) (ls : Array Slot), CallFix p m c cc maxL s av.toArray ws y.cls → meth.name = y.name → (∀ q : Nat, s.heap.size ≤ q → A q) → va_K D vwCl (zTy cI cB) s → va_P D vwCl wc s.heap → va_D A wc → zST tE tN A s s.heap → va_S A s.heap s.heap [] →
      (∀ (u : U) (H : Heap) (locs : List Loc) (pc : Nat) (ls : Array Slot), post u → va_P D vwCl (wf u) H → va_D A (wf u) → va_S A s.heap H locs → decode cc pc = .ok (.return_, 1) → W p l e rm s m av.toArray below meth c H locs mc ms Q (F0 m pc ls [])) →
      lv_has ls maxL (lv_args 0 av) → W p l e rm s m av.toArray below meth c s.heap [] 0 0 Q (F0 m 0 ls [])) : zV l y ws rm D cI cB tE tN av wc sz wf post mc ms := by
  refine Met.ofW (cc := cc) (maxL := maxL) (ret := none) hy hw ?_
  intro p e s m args below meth c s₁ B hml hv
  obtain ⟨rfl, hsz, hP, hK, hD0, hT⟩ := hv
  subst hsz
  have hl := lv_entry av (n := maxL) hlen
  rw [lg_entry_eq]
  refine body p e s m below meth c (va_A wc s.heap.size) _ _ ⟨B.exec, B.bytes, hml, findClass_of_methodNamed B.named, atoms_spec (ws := ws) B.pre⟩ (name_of_methodNamed B.named B.method).1 (fun q h => Or.inr h) hK hP hD0.self hT va_S.rf ?_ hl
  intro u H locs pc ls hp hP1 hD1 hS1 hd
  exact W.vret B.exec B.bytes B.returns (fun t ht hW => ⟨⟨u, rfl, hp, by rw [ht]; exact hP1, va_K.moved hW.alike hK, hD1⟩, hS1.F ht⟩) hS1.2.2 hd
theorem zR_mk {U : Type} {l : Launch} {y : MethodName} {ws ws' : List Cond} {rm : Room} {D : va_G} {cI cB : ClassId} {tE tN : Nat} {av : List Value} {wc : va_W} {sz : Nat} {wf : U → va_W} {post : Nat → U → Prop} {mc ms : Nat} {cc : ByteArray} {maxL : Nat} {rt : String} (hy : plainName y.cls = true) (hw : ws = Cond.code y cc maxL (some (.object rt)) :: ws') (hlen : (lg_sl av).length ≤ maxL)
    (body : ∀ (p : Program) (e : Env) (s : State) (m : MethodId) (below : List Frame) (meth : Method) (c : Code) (A : Nat → Prop) (Q : State → Prop) (ls : Array Slot), CallFix p m c cc maxL s av.toArray ws y.cls → meth.name = y.name → (∀ q : Nat, s.heap.size ≤ q → A q) → va_K D vwCl (zTy cI cB) s → va_P D vwCl wc s.heap → va_D A wc → zST tE tN A s s.heap → va_S A s.heap s.heap [] →
      (∀ (r : Nat) (u : U) (H : Heap) (locs : List Loc) (pc : Nat) (ls : Array Slot), post r u → va_P D vwCl (wf u) H → va_D A (wf u) → va_S A s.heap H locs → decode cc pc = .ok (.areturn, 1) → W p l e rm s m av.toArray below meth c H locs mc ms Q (F0 m pc ls [.ref r])) →
      lv_has ls maxL (lv_args 0 av) → W p l e rm s m av.toArray below meth c s.heap [] 0 0 Q (F0 m 0 ls [])) : zR l y ws rm D cI cB tE tN av wc sz wf post mc ms := by
  refine Met.ofW (cc := cc) (maxL := maxL) (ret := (some (.object rt))) hy hw ?_
  intro p e s m args below meth c s₁ B hml hv
  obtain ⟨rfl, hsz, hP, hK, hD0, hT⟩ := hv
  subst hsz
  have hl := lv_entry av (n := maxL) hlen
  rw [lg_entry_eq]
  refine body p e s m below meth c (va_A wc s.heap.size) _ _ ⟨B.exec, B.bytes, hml, findClass_of_methodNamed B.named, atoms_spec (ws := ws) B.pre⟩ (name_of_methodNamed B.named B.method).1 (fun q h => Or.inr h) hK hP hD0.self hT va_S.rf ?_ hl
  intro r u H locs pc ls hp hP1 hD1 hS1 hd
  exact W.aret B.exec B.bytes B.returns (Or.inl ⟨rt, rfl⟩) (Or.inr ⟨r, rfl⟩) (fun t ht hW => ⟨⟨(r, u), rfl, hp, by rw [ht]; exact hP1, va_K.moved hW.alike hK, hD1⟩, hS1.F ht⟩) hS1.2.2 hd
section ZGO
variable {p : Program} {l : Launch} {e : Env} {R : Room} {s : State} {m : MethodId} {args : Array Value} {below : List Frame} {meth : Method} {c : Code} {H : Heap} {locs : List Loc} {cells slots : Nat} {Q : State → Prop}
variable {cc : ByteArray} {pc : Nat} {ls : Array Slot} {rest st : List Value} {D : va_G} {cI cB : ClassId} {tE tN : Nat} {A : Nat → Prop} {ws wc wr : va_W} {mc ms nL n index maxL : Nat} {a : Array Value} {U : Type} {wf wn : U → va_W} {y : MethodName} {wsC Ts ws' : List Cond} {rm : Room} {own C : String} {bytes : ByteArray} {ret : Option FieldType} {As : List Value} {b : Nat}
/-- what a callee asks of the state at its entry -/
theorem z_pre {av : List Value} (hK : va_K D vwCl (zTy cI cB) s) (hP : va_P D vwCl ws H) (hD : va_D A ws) (hS : va_S A s.heap H locs) (hA : ∀ q : Nat, s.heap.size ≤ q → A q) (hT : zST tE tN A s s.heap) (isC : List Nat) (hnC : va_nd isC = true) (hC : isC.map (fun i => ws[i]?) = wc.map some) (U : State) (hU : U.heap = H) (hW : s.WarmedH U.vm) : zPre D cI cB tE tN av wc H.size av.toArray U := by
  have hF := va_free (wc := wc) hD hS hA isC hC
  have hCf : isC.filterMap (fun i => ws[i]?) = wc := z_fm hC
  refine ⟨rfl, by rw [hU], ?_, va_K.moved hW.alike hK, (hD.sub isC hnC hC).weaken (fun _ _ _ _ => trivial), ?_⟩
  · rw [hU]
    exact hP.sub isC hCf
  · rw [hU]
    exact ((hT.kept hS.2.1).narrow hF).warm hW

theorem z_goI {post : Int32 → U → Prop} (hr : va_Run p l e R s m args below meth c H locs cells slots mc ms (F0 m pc ls st) rest (zQ D cI cB (va_A wc H.size) (S := Int32 × U) (fun v => some (.int v.1)) (fun v => wf v.2) (fun v => post v.1 v.2) a) (va_A wc H.size)) (hP : va_P D vwCl ws H) (hD : va_D A ws) (hS : va_S A s.heap H locs) (hA : ∀ q : Nat, s.heap.size ≤ q → A q) (isC isR isN : List Nat) (hC : isC.map (fun i => ws[i]?) = wc.map some) (hR : isR.map (fun i => ws[i]?) = wr.map some) (hnR : va_nd isR = true) (hdis : ∀ i ∈ isR, i ∉ isC) (hnN : va_nd isN = true) (hN : ∀ u : U, isN.map (fun i => (wr ++ wf u)[i]?) = (wn u).map some)
    (k : ∀ (r : Int32) (u : U) (H1 : Heap) (locs1 : List Loc), post r u → va_P D vwCl (wn u) H1 → va_D A (wn u) → va_S A s.heap H1 locs1 → W p l e R s m args below meth c H1 locs1 (cells + mc) (slots + ms) Q (F0 m (pc + 3) ls (.int r :: rest))) : W p l e R s m args below meth c H locs cells slots Q (F0 m pc ls st) := by
  intro T hT X
  have hF := va_free (wc := wc) hD hS hA isC hC
  obtain ⟨v, st₀, t, T', L, h0, X', hL, e1, e2, ⟨⟨⟨r, u⟩, hv, hp, hb⟩, hz, hk⟩, sp⟩ := hr T hT X
  cases hv
  rw [h0] at hz hk
  obtain ⟨hP1, hK1, hD1⟩ := hb
  rw [← e1] at hP1 hz hk
  obtain ⟨hP2, hD2⟩ := va_join (wr := wr) (w1 := wf u) hP hD isC isR hC hR hnR hdis hk hF hP1 hD1
  have hNf : isN.filterMap (fun i => (wr ++ wf u)[i]?) = wn u := z_fm (hN u)
  obtain ⟨t2, a1, b1⟩ := k r u T'.heap (locs ++ L) hp (hP2.sub isN hNf) (hD2.sub isN hnN (hN u))
    ⟨Nat.le_trans hS.1 hz, fun q h1 h2 => by rw [hk q (Nat.lt_of_lt_of_le h1 hS.1) (fun z => h2 (hF q z))]; exact hS.2.1 q h1 h2, fun q hq => by
      rcases List.mem_append.mp hq with h | h
      · exact hS.2.2 q h
      · exact hF _ (hL q h)⟩ T' rfl X'
  exact ⟨t2, sp t2 a1, b1⟩
theorem z_goL {post : Int64 → U → Prop} (hr : va_Run p l e R s m args below meth c H locs cells slots mc ms (F0 m pc ls st) rest (zQ D cI cB (va_A wc H.size) (S := Int64 × U) (fun v => some (.long v.1)) (fun v => wf v.2) (fun v => post v.1 v.2) a) (va_A wc H.size)) (hP : va_P D vwCl ws H) (hD : va_D A ws) (hS : va_S A s.heap H locs) (hA : ∀ q : Nat, s.heap.size ≤ q → A q) (isC isR isN : List Nat) (hC : isC.map (fun i => ws[i]?) = wc.map some) (hR : isR.map (fun i => ws[i]?) = wr.map some) (hnR : va_nd isR = true) (hdis : ∀ i ∈ isR, i ∉ isC) (hnN : va_nd isN = true) (hN : ∀ u : U, isN.map (fun i => (wr ++ wf u)[i]?) = (wn u).map some)
    (k : ∀ (r : Int64) (u : U) (H1 : Heap) (locs1 : List Loc), post r u → va_P D vwCl (wn u) H1 → va_D A (wn u) → va_S A s.heap H1 locs1 → W p l e R s m args below meth c H1 locs1 (cells + mc) (slots + ms) Q (F0 m (pc + 3) ls (.long r :: rest))) : W p l e R s m args below meth c H locs cells slots Q (F0 m pc ls st) := by
  intro T hT X
  have hF := va_free (wc := wc) hD hS hA isC hC
  obtain ⟨v, st₀, t, T', L, h0, X', hL, e1, e2, ⟨⟨⟨r, u⟩, hv, hp, hb⟩, hz, hk⟩, sp⟩ := hr T hT X
  cases hv
  rw [h0] at hz hk
  obtain ⟨hP1, hK1, hD1⟩ := hb
  rw [← e1] at hP1 hz hk
  obtain ⟨hP2, hD2⟩ := va_join (wr := wr) (w1 := wf u) hP hD isC isR hC hR hnR hdis hk hF hP1 hD1
  have hNf : isN.filterMap (fun i => (wr ++ wf u)[i]?) = wn u := z_fm (hN u)
  obtain ⟨t2, a1, b1⟩ := k r u T'.heap (locs ++ L) hp (hP2.sub isN hNf) (hD2.sub isN hnN (hN u))
    ⟨Nat.le_trans hS.1 hz, fun q h1 h2 => by rw [hk q (Nat.lt_of_lt_of_le h1 hS.1) (fun z => h2 (hF q z))]; exact hS.2.1 q h1 h2, fun q hq => by
      rcases List.mem_append.mp hq with h | h
      · exact hS.2.2 q h
      · exact hF _ (hL q h)⟩ T' rfl X'
  exact ⟨t2, sp t2 a1, b1⟩
theorem z_goV {post : U → Prop} (hr : va_Run p l e R s m args below meth c H locs cells slots mc ms (F0 m pc ls st) rest (zQ D cI cB (va_A wc H.size) (S := U) (fun v => none) (fun v => wf v) (fun v => post v) a) (va_A wc H.size)) (hP : va_P D vwCl ws H) (hD : va_D A ws) (hS : va_S A s.heap H locs) (hA : ∀ q : Nat, s.heap.size ≤ q → A q) (isC isR isN : List Nat) (hC : isC.map (fun i => ws[i]?) = wc.map some) (hR : isR.map (fun i => ws[i]?) = wr.map some) (hnR : va_nd isR = true) (hdis : ∀ i ∈ isR, i ∉ isC) (hnN : va_nd isN = true) (hN : ∀ u : U, isN.map (fun i => (wr ++ wf u)[i]?) = (wn u).map some)
    (k : ∀ (u : U) (H1 : Heap) (locs1 : List Loc), post u → va_P D vwCl (wn u) H1 → va_D A (wn u) → va_S A s.heap H1 locs1 → W p l e R s m args below meth c H1 locs1 (cells + mc) (slots + ms) Q (F0 m (pc + 3) ls rest)) : W p l e R s m args below meth c H locs cells slots Q (F0 m pc ls st) := by
  intro T hT X
  have hF := va_free (wc := wc) hD hS hA isC hC
  obtain ⟨v, st₀, t, T', L, h0, X', hL, e1, e2, ⟨⟨u, hv, hp, hb⟩, hz, hk⟩, sp⟩ := hr T hT X
  cases hv
  rw [h0] at hz hk
  obtain ⟨hP1, hK1, hD1⟩ := hb
  rw [← e1] at hP1 hz hk
  obtain ⟨hP2, hD2⟩ := va_join (wr := wr) (w1 := wf u) hP hD isC isR hC hR hnR hdis hk hF hP1 hD1
  have hNf : isN.filterMap (fun i => (wr ++ wf u)[i]?) = wn u := z_fm (hN u)
  obtain ⟨t2, a1, b1⟩ := k u T'.heap (locs ++ L) hp (hP2.sub isN hNf) (hD2.sub isN hnN (hN u))
    ⟨Nat.le_trans hS.1 hz, fun q h1 h2 => by rw [hk q (Nat.lt_of_lt_of_le h1 hS.1) (fun z => h2 (hF q z))]; exact hS.2.1 q h1 h2, fun q hq => by
      rcases List.mem_append.mp hq with h | h
      · exact hS.2.2 q h
      · exact hF _ (hL q h)⟩ T' rfl X'
  exact ⟨t2, sp t2 a1, b1⟩
theorem z_goR {post : Nat → U → Prop} (hr : va_Run p l e R s m args below meth c H locs cells slots mc ms (F0 m pc ls st) rest (zQ D cI cB (va_A wc H.size) (S := Nat × U) (fun v => some (.ref v.1)) (fun v => wf v.2) (fun v => post v.1 v.2) a) (va_A wc H.size)) (hP : va_P D vwCl ws H) (hD : va_D A ws) (hS : va_S A s.heap H locs) (hA : ∀ q : Nat, s.heap.size ≤ q → A q) (isC isR isN : List Nat) (hC : isC.map (fun i => ws[i]?) = wc.map some) (hR : isR.map (fun i => ws[i]?) = wr.map some) (hnR : va_nd isR = true) (hdis : ∀ i ∈ isR, i ∉ isC) (hnN : va_nd isN = true) (hN : ∀ u : U, isN.map (fun i => (wr ++ wf u)[i]?) = (wn u).map some)
    (k : ∀ (r : Nat) (u : U) (H1 : Heap) (locs1 : List Loc), post r u → va_P D vwCl (wn u) H1 → va_D A (wn u) → va_S A s.heap H1 locs1 → W p l e R s m args below meth c H1 locs1 (cells + mc) (slots + ms) Q (F0 m (pc + 3) ls (.ref r :: rest))) : W p l e R s m args below meth c H locs cells slots Q (F0 m pc ls st) := by
  intro T hT X
  have hF := va_free (wc := wc) hD hS hA isC hC
  obtain ⟨v, st₀, t, T', L, h0, X', hL, e1, e2, ⟨⟨⟨r, u⟩, hv, hp, hb⟩, hz, hk⟩, sp⟩ := hr T hT X
  cases hv
  rw [h0] at hz hk
  obtain ⟨hP1, hK1, hD1⟩ := hb
  rw [← e1] at hP1 hz hk
  obtain ⟨hP2, hD2⟩ := va_join (wr := wr) (w1 := wf u) hP hD isC isR hC hR hnR hdis hk hF hP1 hD1
  have hNf : isN.filterMap (fun i => (wr ++ wf u)[i]?) = wn u := z_fm (hN u)
  obtain ⟨t2, a1, b1⟩ := k r u T'.heap (locs ++ L) hp (hP2.sub isN hNf) (hD2.sub isN hnN (hN u))
    ⟨Nat.le_trans hS.1 hz, fun q h1 h2 => by rw [hk q (Nat.lt_of_lt_of_le h1 hS.1) (fun z => h2 (hF q z))]; exact hS.2.1 q h1 h2, fun q hq => by
      rcases List.mem_append.mp hq with h | h
      · exact hS.2.2 q h
      · exact hF _ (hL q h)⟩ T' rfl X'
  exact ⟨t2, sp t2 a1, b1⟩
theorem z_VI {post : Int32 → U → Prop} (S0 : CallFix p m c cc nL s args Ts own) (hK : va_K D vwCl (zTy cI cB) s) (hP : va_P D vwCl ws H) (hD : va_D A ws) (hS : va_S A s.heap H locs) (hA : ∀ q : Nat, s.heap.size ≤ q → A q) (hT : zST tE tN A s s.heap) (hM : zI l y wsC rm D cI cB tE tN (.ref b :: As) wc H.size wf post mc ms) (hG : GoodIn Ts (wsV own index C y wsC)) (hw : wsC = Cond.code y bytes maxL ret :: ws') (hrc : rm.cells = mc) (hrs : rm.slots = ms) (hd : y.cls = C ∧ y.cls ≠ "java/lang/invoke/MethodHandle" ∧ y.cls ≠ "java/lang/invoke/VarHandle" ∧ (parseMethodDescriptor y.desc).map (fun d => d.parameters.length) = some n) (hRm : rm.frames + 1 ≤ R.frames ∧ 8 + (maxL + 11) + rm.locals ≤ R.locals) (isC isR isN : List Nat) (hnC : va_nd isC = true) (hC : isC.map (fun i => ws[i]?) = wc.map some) (hR : isR.map (fun i => ws[i]?) = wr.map some) (hnR : va_nd isR = true) (hdis : ∀ i ∈ isR, i ∉ isC) (hnN : va_nd isN = true) (hN : ∀ u : U, isN.map (fun i => (wr ++ wf u)[i]?) = (wn u).map some) (q0 ci : Nat) {q : vw_C} {fs : List Value} (hcl : vwCl[ci]? = some q) (hq : q.1 = C) (he : wc[q0]? = some (b, .inr (ci, fs)))
    (hn : As.length = n) (hls : ls.size = nL) (hst : st = As.reverse ++ .ref b :: rest) (hr : (rest.map fun v => v.category).sum ≤ 8) (hdg : decode cc pc = .ok (.invokevirtual index, 3)) (hf : cells + mc ≤ R.cells ∧ slots + ms ≤ R.slots)
    (k : ∀ (r : Int32) (u : U) (H1 : Heap) (locs1 : List Loc), post r u → va_P D vwCl (wn u) H1 → va_D A (wn u) → va_S A s.heap H1 locs1 → W p l e R s m args below meth c H1 locs1 (cells + mc) (slots + ms) Q (F0 m (pc + 3) ls (.int r :: rest))) : W p l e R s m args below meth c H locs cells slots Q (F0 m pc ls st) := by
  have hPc : va_P D vwCl wc H := hP.sub isC (z_fm hC)
  have hrecv : ∃ cell : Cell, H[b]? = some cell ∧ cell.vm.isStatics = false ∧ s.vm.findClass C = some cell.cls := by
    rw [← hq]
    exact va_recv hK hPc hcl he
  exact z_goI (wf := wf) (va_runV (As := As) (b := b) (rest := rest) S0 hM (cwV n S0.2.2.2.2 hG hw hrc hrs hd hRm) ⟨zPre_blind _ _ _ _ _ _ _ _, hrecv, fun U hU hW => z_pre hK hP hD hS hA hT isC hnC hC U hU hW⟩ rfl hn hls hst (lv_room hr) hdg hf) hP hD hS hA isC isR isN hC hR hnR hdis hnN hN k
theorem z_VL {post : Int64 → U → Prop} (S0 : CallFix p m c cc nL s args Ts own) (hK : va_K D vwCl (zTy cI cB) s) (hP : va_P D vwCl ws H) (hD : va_D A ws) (hS : va_S A s.heap H locs) (hA : ∀ q : Nat, s.heap.size ≤ q → A q) (hT : zST tE tN A s s.heap) (hM : zL l y wsC rm D cI cB tE tN (.ref b :: As) wc H.size wf post mc ms) (hG : GoodIn Ts (wsV own index C y wsC)) (hw : wsC = Cond.code y bytes maxL ret :: ws') (hrc : rm.cells = mc) (hrs : rm.slots = ms) (hd : y.cls = C ∧ y.cls ≠ "java/lang/invoke/MethodHandle" ∧ y.cls ≠ "java/lang/invoke/VarHandle" ∧ (parseMethodDescriptor y.desc).map (fun d => d.parameters.length) = some n) (hRm : rm.frames + 1 ≤ R.frames ∧ 8 + (maxL + 11) + rm.locals ≤ R.locals) (isC isR isN : List Nat) (hnC : va_nd isC = true) (hC : isC.map (fun i => ws[i]?) = wc.map some) (hR : isR.map (fun i => ws[i]?) = wr.map some) (hnR : va_nd isR = true) (hdis : ∀ i ∈ isR, i ∉ isC) (hnN : va_nd isN = true) (hN : ∀ u : U, isN.map (fun i => (wr ++ wf u)[i]?) = (wn u).map some) (q0 ci : Nat) {q : vw_C} {fs : List Value} (hcl : vwCl[ci]? = some q) (hq : q.1 = C) (he : wc[q0]? = some (b, .inr (ci, fs)))
    (hn : As.length = n) (hls : ls.size = nL) (hst : st = As.reverse ++ .ref b :: rest) (hr : (rest.map fun v => v.category).sum ≤ 8) (hdg : decode cc pc = .ok (.invokevirtual index, 3)) (hf : cells + mc ≤ R.cells ∧ slots + ms ≤ R.slots)
    (k : ∀ (r : Int64) (u : U) (H1 : Heap) (locs1 : List Loc), post r u → va_P D vwCl (wn u) H1 → va_D A (wn u) → va_S A s.heap H1 locs1 → W p l e R s m args below meth c H1 locs1 (cells + mc) (slots + ms) Q (F0 m (pc + 3) ls (.long r :: rest))) : W p l e R s m args below meth c H locs cells slots Q (F0 m pc ls st) := by
  have hPc : va_P D vwCl wc H := hP.sub isC (z_fm hC)
  have hrecv : ∃ cell : Cell, H[b]? = some cell ∧ cell.vm.isStatics = false ∧ s.vm.findClass C = some cell.cls := by
    rw [← hq]
    exact va_recv hK hPc hcl he
  exact z_goL (wf := wf) (va_runV (As := As) (b := b) (rest := rest) S0 hM (cwV n S0.2.2.2.2 hG hw hrc hrs hd hRm) ⟨zPre_blind _ _ _ _ _ _ _ _, hrecv, fun U hU hW => z_pre hK hP hD hS hA hT isC hnC hC U hU hW⟩ rfl hn hls hst (lv_room hr) hdg hf) hP hD hS hA isC isR isN hC hR hnR hdis hnN hN k
theorem z_VV {post : U → Prop} (S0 : CallFix p m c cc nL s args Ts own) (hK : va_K D vwCl (zTy cI cB) s) (hP : va_P D vwCl ws H) (hD : va_D A ws) (hS : va_S A s.heap H locs) (hA : ∀ q : Nat, s.heap.size ≤ q → A q) (hT : zST tE tN A s s.heap) (hM : zV l y wsC rm D cI cB tE tN (.ref b :: As) wc H.size wf post mc ms) (hG : GoodIn Ts (wsV own index C y wsC)) (hw : wsC = Cond.code y bytes maxL ret :: ws') (hrc : rm.cells = mc) (hrs : rm.slots = ms) (hd : y.cls = C ∧ y.cls ≠ "java/lang/invoke/MethodHandle" ∧ y.cls ≠ "java/lang/invoke/VarHandle" ∧ (parseMethodDescriptor y.desc).map (fun d => d.parameters.length) = some n) (hRm : rm.frames + 1 ≤ R.frames ∧ 8 + (maxL + 11) + rm.locals ≤ R.locals) (isC isR isN : List Nat) (hnC : va_nd isC = true) (hC : isC.map (fun i => ws[i]?) = wc.map some) (hR : isR.map (fun i => ws[i]?) = wr.map some) (hnR : va_nd isR = true) (hdis : ∀ i ∈ isR, i ∉ isC) (hnN : va_nd isN = true) (hN : ∀ u : U, isN.map (fun i => (wr ++ wf u)[i]?) = (wn u).map some) (q0 ci : Nat) {q : vw_C} {fs : List Value} (hcl : vwCl[ci]? = some q) (hq : q.1 = C) (he : wc[q0]? = some (b, .inr (ci, fs)))
    (hn : As.length = n) (hls : ls.size = nL) (hst : st = As.reverse ++ .ref b :: rest) (hr : (rest.map fun v => v.category).sum ≤ 8) (hdg : decode cc pc = .ok (.invokevirtual index, 3)) (hf : cells + mc ≤ R.cells ∧ slots + ms ≤ R.slots)
    (k : ∀ (u : U) (H1 : Heap) (locs1 : List Loc), post u → va_P D vwCl (wn u) H1 → va_D A (wn u) → va_S A s.heap H1 locs1 → W p l e R s m args below meth c H1 locs1 (cells + mc) (slots + ms) Q (F0 m (pc + 3) ls rest)) : W p l e R s m args below meth c H locs cells slots Q (F0 m pc ls st) := by
  have hPc : va_P D vwCl wc H := hP.sub isC (z_fm hC)
  have hrecv : ∃ cell : Cell, H[b]? = some cell ∧ cell.vm.isStatics = false ∧ s.vm.findClass C = some cell.cls := by
    rw [← hq]
    exact va_recv hK hPc hcl he
  exact z_goV (wf := wf) (va_runV (As := As) (b := b) (rest := rest) S0 hM (cwV n S0.2.2.2.2 hG hw hrc hrs hd hRm) ⟨zPre_blind _ _ _ _ _ _ _ _, hrecv, fun U hU hW => z_pre hK hP hD hS hA hT isC hnC hC U hU hW⟩ rfl hn hls hst (lv_room hr) hdg hf) hP hD hS hA isC isR isN hC hR hnR hdis hnN hN k
theorem z_VR {post : Nat → U → Prop} (S0 : CallFix p m c cc nL s args Ts own) (hK : va_K D vwCl (zTy cI cB) s) (hP : va_P D vwCl ws H) (hD : va_D A ws) (hS : va_S A s.heap H locs) (hA : ∀ q : Nat, s.heap.size ≤ q → A q) (hT : zST tE tN A s s.heap) (hM : zR l y wsC rm D cI cB tE tN (.ref b :: As) wc H.size wf post mc ms) (hG : GoodIn Ts (wsV own index C y wsC)) (hw : wsC = Cond.code y bytes maxL ret :: ws') (hrc : rm.cells = mc) (hrs : rm.slots = ms) (hd : y.cls = C ∧ y.cls ≠ "java/lang/invoke/MethodHandle" ∧ y.cls ≠ "java/lang/invoke/VarHandle" ∧ (parseMethodDescriptor y.desc).map (fun d => d.parameters.length) = some n) (hRm : rm.frames + 1 ≤ R.frames ∧ 8 + (maxL + 11) + rm.locals ≤ R.locals) (isC isR isN : List Nat) (hnC : va_nd isC = true) (hC : isC.map (fun i => ws[i]?) = wc.map some) (hR : isR.map (fun i => ws[i]?) = wr.map some) (hnR : va_nd isR = true) (hdis : ∀ i ∈ isR, i ∉ isC) (hnN : va_nd isN = true) (hN : ∀ u : U, isN.map (fun i => (wr ++ wf u)[i]?) = (wn u).map some) (q0 ci : Nat) {q : vw_C} {fs : List Value} (hcl : vwCl[ci]? = some q) (hq : q.1 = C) (he : wc[q0]? = some (b, .inr (ci, fs)))
    (hn : As.length = n) (hls : ls.size = nL) (hst : st = As.reverse ++ .ref b :: rest) (hr : (rest.map fun v => v.category).sum ≤ 8) (hdg : decode cc pc = .ok (.invokevirtual index, 3)) (hf : cells + mc ≤ R.cells ∧ slots + ms ≤ R.slots)
    (k : ∀ (r : Nat) (u : U) (H1 : Heap) (locs1 : List Loc), post r u → va_P D vwCl (wn u) H1 → va_D A (wn u) → va_S A s.heap H1 locs1 → W p l e R s m args below meth c H1 locs1 (cells + mc) (slots + ms) Q (F0 m (pc + 3) ls (.ref r :: rest))) : W p l e R s m args below meth c H locs cells slots Q (F0 m pc ls st) := by
  have hPc : va_P D vwCl wc H := hP.sub isC (z_fm hC)
  have hrecv : ∃ cell : Cell, H[b]? = some cell ∧ cell.vm.isStatics = false ∧ s.vm.findClass C = some cell.cls := by
    rw [← hq]
    exact va_recv hK hPc hcl he
  exact z_goR (wf := wf) (va_runV (As := As) (b := b) (rest := rest) S0 hM (cwV n S0.2.2.2.2 hG hw hrc hrs hd hRm) ⟨zPre_blind _ _ _ _ _ _ _ _, hrecv, fun U hU hW => z_pre hK hP hD hS hA hT isC hnC hC U hU hW⟩ rfl hn hls hst (lv_room hr) hdg hf) hP hD hS hA isC isR isN hC hR hnR hdis hnN hN k
theorem z_SI {post : Int32 → U → Prop} (S0 : CallFix p m c cc nL s args Ts own) (hK : va_K D vwCl (zTy cI cB) s) (hP : va_P D vwCl ws H) (hD : va_D A ws) (hS : va_S A s.heap H locs) (hA : ∀ q : Nat, s.heap.size ≤ q → A q) (hT : zST tE tN A s s.heap) (hM : zI l y wsC rm D cI cB tE tN As wc H.size wf post mc ms) (hG : GoodIn Ts (va_wsS own index y wsC)) (hw : wsC = Cond.code y bytes maxL ret :: ws') (hrc : rm.cells = mc) (hrs : rm.slots = ms) (hd : y.cls ≠ "java/lang/invoke/MethodHandle" ∧ y.cls ≠ "java/lang/invoke/VarHandle" ∧ (parseMethodDescriptor y.desc).map (fun d => d.parameters.length) = some n) (hRm : rm.frames + 1 ≤ R.frames ∧ 8 + (maxL + 11) + rm.locals ≤ R.locals) (isC isR isN : List Nat) (hnC : va_nd isC = true) (hC : isC.map (fun i => ws[i]?) = wc.map some) (hR : isR.map (fun i => ws[i]?) = wr.map some) (hnR : va_nd isR = true) (hdis : ∀ i ∈ isR, i ∉ isC) (hnN : va_nd isN = true) (hN : ∀ u : U, isN.map (fun i => (wr ++ wf u)[i]?) = (wn u).map some) 
    (hn : As.length = n) (hls : ls.size = nL) (hst : st = As.reverse ++ rest) (hr : (rest.map fun v => v.category).sum ≤ 8) (hdg : decode cc pc = .ok (.invokestatic index, 3)) (hf : cells + mc ≤ R.cells ∧ slots + ms ≤ R.slots)
    (k : ∀ (r : Int32) (u : U) (H1 : Heap) (locs1 : List Loc), post r u → va_P D vwCl (wn u) H1 → va_D A (wn u) → va_S A s.heap H1 locs1 → W p l e R s m args below meth c H1 locs1 (cells + mc) (slots + ms) Q (F0 m (pc + 3) ls (.int r :: rest))) : W p l e R s m args below meth c H locs cells slots Q (F0 m pc ls st) := by
  exact z_goI (wf := wf) (va_runS (As := As) (rest := rest) S0 hM (va_cwS n S0.2.2.2.2 hG hw hrc hrs hd hRm) ⟨zPre_blind _ _ _ _ _ _ _ _, fun U hU hW => z_pre hK hP hD hS hA hT isC hnC hC U hU hW⟩ rfl hn hls hst (lv_room hr) hdg hf) hP hD hS hA isC isR isN hC hR hnR hdis hnN hN k
theorem z_SL {post : Int64 → U → Prop} (S0 : CallFix p m c cc nL s args Ts own) (hK : va_K D vwCl (zTy cI cB) s) (hP : va_P D vwCl ws H) (hD : va_D A ws) (hS : va_S A s.heap H locs) (hA : ∀ q : Nat, s.heap.size ≤ q → A q) (hT : zST tE tN A s s.heap) (hM : zL l y wsC rm D cI cB tE tN As wc H.size wf post mc ms) (hG : GoodIn Ts (va_wsS own index y wsC)) (hw : wsC = Cond.code y bytes maxL ret :: ws') (hrc : rm.cells = mc) (hrs : rm.slots = ms) (hd : y.cls ≠ "java/lang/invoke/MethodHandle" ∧ y.cls ≠ "java/lang/invoke/VarHandle" ∧ (parseMethodDescriptor y.desc).map (fun d => d.parameters.length) = some n) (hRm : rm.frames + 1 ≤ R.frames ∧ 8 + (maxL + 11) + rm.locals ≤ R.locals) (isC isR isN : List Nat) (hnC : va_nd isC = true) (hC : isC.map (fun i => ws[i]?) = wc.map some) (hR : isR.map (fun i => ws[i]?) = wr.map some) (hnR : va_nd isR = true) (hdis : ∀ i ∈ isR, i ∉ isC) (hnN : va_nd isN = true) (hN : ∀ u : U, isN.map (fun i => (wr ++ wf u)[i]?) = (wn u).map some) 
    (hn : As.length = n) (hls : ls.size = nL) (hst : st = As.reverse ++ rest) (hr : (rest.map fun v => v.category).sum ≤ 8) (hdg : decode cc pc = .ok (.invokestatic index, 3)) (hf : cells + mc ≤ R.cells ∧ slots + ms ≤ R.slots)
    (k : ∀ (r : Int64) (u : U) (H1 : Heap) (locs1 : List Loc), post r u → va_P D vwCl (wn u) H1 → va_D A (wn u) → va_S A s.heap H1 locs1 → W p l e R s m args below meth c H1 locs1 (cells + mc) (slots + ms) Q (F0 m (pc + 3) ls (.long r :: rest))) : W p l e R s m args below meth c H locs cells slots Q (F0 m pc ls st) := by
  exact z_goL (wf := wf) (va_runS (As := As) (rest := rest) S0 hM (va_cwS n S0.2.2.2.2 hG hw hrc hrs hd hRm) ⟨zPre_blind _ _ _ _ _ _ _ _, fun U hU hW => z_pre hK hP hD hS hA hT isC hnC hC U hU hW⟩ rfl hn hls hst (lv_room hr) hdg hf) hP hD hS hA isC isR isN hC hR hnR hdis hnN hN k
theorem z_SV {post : U → Prop} (S0 : CallFix p m c cc nL s args Ts own) (hK : va_K D vwCl (zTy cI cB) s) (hP : va_P D vwCl ws H) (hD : va_D A ws) (hS : va_S A s.heap H locs) (hA : ∀ q : Nat, s.heap.size ≤ q → A q) (hT : zST tE tN A s s.heap) (hM : zV l y wsC rm D cI cB tE tN As wc H.size wf post mc ms) (hG : GoodIn Ts (va_wsS own index y wsC)) (hw : wsC = Cond.code y bytes maxL ret :: ws') (hrc : rm.cells = mc) (hrs : rm.slots = ms) (hd : y.cls ≠ "java/lang/invoke/MethodHandle" ∧ y.cls ≠ "java/lang/invoke/VarHandle" ∧ (parseMethodDescriptor y.desc).map (fun d => d.parameters.length) = some n) (hRm : rm.frames + 1 ≤ R.frames ∧ 8 + (maxL + 11) + rm.locals ≤ R.locals) (isC isR isN : List Nat) (hnC : va_nd isC = true) (hC : isC.map (fun i => ws[i]?) = wc.map some) (hR : isR.map (fun i => ws[i]?) = wr.map some) (hnR : va_nd isR = true) (hdis : ∀ i ∈ isR, i ∉ isC) (hnN : va_nd isN = true) (hN : ∀ u : U, isN.map (fun i => (wr ++ wf u)[i]?) = (wn u).map some) 
    (hn : As.length = n) (hls : ls.size = nL) (hst : st = As.reverse ++ rest) (hr : (rest.map fun v => v.category).sum ≤ 8) (hdg : decode cc pc = .ok (.invokestatic index, 3)) (hf : cells + mc ≤ R.cells ∧ slots + ms ≤ R.slots)
    (k : ∀ (u : U) (H1 : Heap) (locs1 : List Loc), post u → va_P D vwCl (wn u) H1 → va_D A (wn u) → va_S A s.heap H1 locs1 → W p l e R s m args below meth c H1 locs1 (cells + mc) (slots + ms) Q (F0 m (pc + 3) ls rest)) : W p l e R s m args below meth c H locs cells slots Q (F0 m pc ls st) := by
  exact z_goV (wf := wf) (va_runS (As := As) (rest := rest) S0 hM (va_cwS n S0.2.2.2.2 hG hw hrc hrs hd hRm) ⟨zPre_blind _ _ _ _ _ _ _ _, fun U hU hW => z_pre hK hP hD hS hA hT isC hnC hC U hU hW⟩ rfl hn hls hst (lv_room hr) hdg hf) hP hD hS hA isC isR isN hC hR hnR hdis hnN hN k
theorem z_SR {post : Nat → U → Prop} (S0 : CallFix p m c cc nL s args Ts own) (hK : va_K D vwCl (zTy cI cB) s) (hP : va_P D vwCl ws H) (hD : va_D A ws) (hS : va_S A s.heap H locs) (hA : ∀ q : Nat, s.heap.size ≤ q → A q) (hT : zST tE tN A s s.heap) (hM : zR l y wsC rm D cI cB tE tN As wc H.size wf post mc ms) (hG : GoodIn Ts (va_wsS own index y wsC)) (hw : wsC = Cond.code y bytes maxL ret :: ws') (hrc : rm.cells = mc) (hrs : rm.slots = ms) (hd : y.cls ≠ "java/lang/invoke/MethodHandle" ∧ y.cls ≠ "java/lang/invoke/VarHandle" ∧ (parseMethodDescriptor y.desc).map (fun d => d.parameters.length) = some n) (hRm : rm.frames + 1 ≤ R.frames ∧ 8 + (maxL + 11) + rm.locals ≤ R.locals) (isC isR isN : List Nat) (hnC : va_nd isC = true) (hC : isC.map (fun i => ws[i]?) = wc.map some) (hR : isR.map (fun i => ws[i]?) = wr.map some) (hnR : va_nd isR = true) (hdis : ∀ i ∈ isR, i ∉ isC) (hnN : va_nd isN = true) (hN : ∀ u : U, isN.map (fun i => (wr ++ wf u)[i]?) = (wn u).map some) 
    (hn : As.length = n) (hls : ls.size = nL) (hst : st = As.reverse ++ rest) (hr : (rest.map fun v => v.category).sum ≤ 8) (hdg : decode cc pc = .ok (.invokestatic index, 3)) (hf : cells + mc ≤ R.cells ∧ slots + ms ≤ R.slots)
    (k : ∀ (r : Nat) (u : U) (H1 : Heap) (locs1 : List Loc), post r u → va_P D vwCl (wn u) H1 → va_D A (wn u) → va_S A s.heap H1 locs1 → W p l e R s m args below meth c H1 locs1 (cells + mc) (slots + ms) Q (F0 m (pc + 3) ls (.ref r :: rest))) : W p l e R s m args below meth c H locs cells slots Q (F0 m pc ls st) := by
  exact z_goR (wf := wf) (va_runS (As := As) (rest := rest) S0 hM (va_cwS n S0.2.2.2.2 hG hw hrc hrs hd hRm) ⟨zPre_blind _ _ _ _ _ _ _ _, fun U hU hW => z_pre hK hP hD hS hA hT isC hnC hC U hU hW⟩ rfl hn hls hst (lv_room hr) hdg hf) hP hD hS hA isC isR isN hC hR hnR hdis hnN hN k
theorem z_NI {post : Int32 → U → Prop} (S0 : CallFix p m c cc nL s args Ts own) (hK : va_K D vwCl (zTy cI cB) s) (hP : va_P D vwCl ws H) (hD : va_D A ws) (hS : va_S A s.heap H locs) (hA : ∀ q : Nat, s.heap.size ≤ q → A q) (hT : zST tE tN A s s.heap) (hM : zI l y wsC rm D cI cB tE tN As wc H.size wf post mc ms) {host : String} (hG : GoodIn Ts wsC) (hl : va_Nw (.methodLinkNest own index y host) s) (hini : (Cond.initialized y.cls).before args s = true) (hstat : (Cond.static y).before args s = true) (hw : wsC = Cond.code y bytes maxL ret :: ws') (hrc : rm.cells = mc) (hrs : rm.slots = ms) (hd : y.cls ≠ "java/lang/invoke/MethodHandle" ∧ y.cls ≠ "java/lang/invoke/VarHandle" ∧ (parseMethodDescriptor y.desc).map (fun d => d.parameters.length) = some n) (hRm : rm.frames + 1 ≤ R.frames ∧ 8 + (maxL + 11) + rm.locals ≤ R.locals) (isC isR isN : List Nat) (hnC : va_nd isC = true) (hC : isC.map (fun i => ws[i]?) = wc.map some) (hR : isR.map (fun i => ws[i]?) = wr.map some) (hnR : va_nd isR = true) (hdis : ∀ i ∈ isR, i ∉ isC) (hnN : va_nd isN = true) (hN : ∀ u : U, isN.map (fun i => (wr ++ wf u)[i]?) = (wn u).map some) 
    (hn : As.length = n) (hls : ls.size = nL) (hst : st = As.reverse ++ rest) (hr : (rest.map fun v => v.category).sum ≤ 8) (hdg : decode cc pc = .ok (.invokestatic index, 3)) (hf : cells + mc ≤ R.cells ∧ slots + ms ≤ R.slots)
    (k : ∀ (r : Int32) (u : U) (H1 : Heap) (locs1 : List Loc), post r u → va_P D vwCl (wn u) H1 → va_D A (wn u) → va_S A s.heap H1 locs1 → W p l e R s m args below meth c H1 locs1 (cells + mc) (slots + ms) Q (F0 m (pc + 3) ls (.int r :: rest))) : W p l e R s m args below meth c H locs cells slots Q (F0 m pc ls st) := by
  exact z_goI (wf := wf) (va_runSN (As := As) (rest := rest) S0 hM ⟨va_cnB n S0.2.2.2.2 hG hw hrc hrs hl hini hd hRm, hstat, trivial⟩ ⟨zPre_blind _ _ _ _ _ _ _ _, fun U hU hW => z_pre hK hP hD hS hA hT isC hnC hC U hU hW⟩ rfl hn hls hst (lv_room hr) hdg hf) hP hD hS hA isC isR isN hC hR hnR hdis hnN hN k
end ZGO
end
section
/-! rows of arrays at a natural index, tops, copies, branches -/
def b2i (b : Bool) : Int32 := if b = true then 1 else 0
theorem z_b0 {b : Bool} (h : b2i b = 0) : b = false := by cases b with
  | false => rfl
  | true => exact absurd h (by decide)
theorem z_b1 {b : Bool} (h : ¬ b2i b = 0) : b = true := by cases b with
  | false => exact absurd rfl h
  | true => rfl
theorem z_nb (b : Bool) : narrow .boolean (.int (b2i b)) = .int (b2i b) := by cases b <;> rfl
theorem b2i_t {b : Bool} (h : b = true) : (1 : Int32) = b2i b := by rw [h]; rfl
theorem b2i_f {b : Bool} (h : b = false) : (0 : Int32) = b2i b := by rw [h]; rfl
theorem z_add {x y : Int32} {a b : Nat} (hx : x = nI a) (hy : y = nI b) : x + y = nI (a + b) := by rw [hx, hy]; exact nI_add a b
theorem z_mul {x y : Int32} {a b : Nat} (hx : x = nI a) (hy : y = nI b) : x * y = nI (a * b) := by rw [hx, hy]; exact (Int32.ofNat_mul a b).symm
theorem z_toInt {a : Nat} (h : a < 2147483648) : (nI a).toInt = (a : Int) := nI_toInt h
theorem z_le {x y : Int32} {a b : Nat} (hx : x = nI a) (hy : y = nI b) (ha : a < 2147483648) (hb : b < 2147483648) : x ≤ y ↔ a ≤ b := by
  rw [hx, hy, Int32.le_iff_toInt_le, z_toInt ha, z_toInt hb]; omega
theorem z_lt {x y : Int32} {a b : Nat} (hx : x = nI a) (hy : y = nI b) (ha : a < 2147483648) (hb : b < 2147483648) : x < y ↔ a < b := by
  rw [hx, hy, Int32.lt_iff_toInt_lt, z_toInt ha, z_toInt hb]; omega
theorem z_eq {x y : Int32} {a b : Nat} (hx : x = nI a) (hy : y = nI b) (ha : a < 2147483648) (hb : b < 2147483648) : x = y ↔ a = b := by
  rw [hx, hy, ← Int32.toInt_inj, z_toInt ha, z_toInt hb]; omega
theorem z_len {x y : Int32} {a b : Nat} (hx : x = nI a) (hy : y = nI b) (ha : a < 2147483648) (hb : b < 2147483648) : ¬ x ≤ y ↔ b < a := by
  rw [z_le hx hy ha hb]; omega
theorem z_ltn {x y : Int32} {a b : Nat} (hx : x = nI a) (hy : y = nI b) (ha : a < 2147483648) (hb : b < 2147483648) : ¬ x < y ↔ b ≤ a := by
  rw [z_lt hx hy ha hb]; omega
theorem z_eqn {x y : Int32} {a b : Nat} (hx : x = nI a) (hy : y = nI b) (ha : a < 2147483648) (hb : b < 2147483648) : ¬ x = y ↔ a ≠ b := by
  rw [z_eq hx hy ha hb]
theorem z_and15 (x : Int32) : vp_in (x &&& 15) 16 := pk_andIn x 4 (by decide) (by decide)
/-- an int between two naturals is a natural -/
theorem z_nat {x : Int32} {b : Nat} (h0 : 0 ≤ x) (h1 : x ≤ nI b) (hb : b < 2147483648) : ∃ n : Nat, x = nI n ∧ n ≤ b := by
  rw [Int32.le_iff_toInt_le] at h0 h1
  rw [z_toInt hb] at h1
  have h0' : (0 : Int) ≤ x.toInt := h0
  refine ⟨x.toInt.toNat, ?_, by omega⟩
  rw [← Int32.toInt_inj, z_toInt (by omega)]
  omega
section ZRW
variable {p : Program} {l : Launch} {e : Env} {R : Room} {s : State} {m : MethodId} {args : Array Value} {below : List Frame} {meth : Method} {c : Code} {H : Heap} {locs : List Loc} {cells slots : Nat} {Q : State → Prop}
variable {cc : ByteArray} {pc : Nat} {ls : Array Slot} {rest : List Value} {D : va_G} {cI cB : ClassId} {A : Nat → Prop} {a : Nat} {ws : va_W} {H0 : Heap}
theorem z_topi {x y : Int32} (h : x = y) (k : W p l e R s m args below meth c H locs cells slots Q (F0 m pc ls (.int y :: rest))) : W p l e R s m args below meth c H locs cells slots Q (F0 m pc ls (.int x :: rest)) := h ▸ k
theorem z_topl {x y : Int64} (h : x = y) (k : W p l e R s m args below meth c H locs cells slots Q (F0 m pc ls (.long y :: rest))) : W p l e R s m args below meth c H locs cells slots Q (F0 m pc ls (.long x :: rest)) := h ▸ k
theorem z_ild (hexec : p.tables.exec = Jvm.exec) (hb : c.code = cc) (hK : va_K D vwCl (zTy cI cB) s) (hP : va_P D vwCl ws H) (q0 : Nat) {n : Nat} {f : Nat → Int32} (ha : ws[q0]? = some (a, .inl (cI, n, .inl f))) {i v : Int32} {j : Nat} (hi : i = nI j) (hj : j < n) (hn : n < 2147483648) (hv : f j = v) (hdg : decode cc pc = .ok (.iaload, 1))
    (k : W p l e R s m args below meth c H locs cells slots Q (F0 m (pc + 1) ls (.int v :: rest))) : W p l e R s m args below meth c H locs cells slots Q (F0 m pc ls (.int i :: .ref a :: rest)) := by
  subst hi
  refine va_iald hexec hb hK hP q0 0 ha rfl (vp_in_nI hj hn) hdg ?_
  rw [nI_clamp (Nat.lt_trans hj hn), hv]
  exact k
theorem z_bld (hexec : p.tables.exec = Jvm.exec) (hb : c.code = cc) (hK : va_K D vwCl (zTy cI cB) s) (hP : va_P D vwCl ws H) (q0 : Nat) {n : Nat} {f : Nat → Int32} (ha : ws[q0]? = some (a, .inl (cB, n, .inl f))) {i v : Int32} {j : Nat} (hi : i = nI j) (hj : j < n) (hn : n < 2147483648) (hv : f j = v) (hdg : decode cc pc = .ok (.baload, 1))
    (k : W p l e R s m args below meth c H locs cells slots Q (F0 m (pc + 1) ls (.int v :: rest))) : W p l e R s m args below meth c H locs cells slots Q (F0 m pc ls (.int i :: .ref a :: rest)) := by
  subst hi
  refine va_bald hexec hb hK hP q0 1 ha rfl (vp_in_nI hj hn) hdg ?_
  rw [nI_clamp (Nat.lt_trans hj hn), hv]
  exact k
theorem z_ist (hexec : p.tables.exec = Jvm.exec) (hb : c.code = cc) (hK : va_K D vwCl (zTy cI cB) s) (hP : va_P D vwCl ws H) (hD : va_D A ws) (hS : va_S A H0 H locs) (q0 : Nat) {n : Nat} {f : Nat → Int32} (ha : ws[q0]? = some (a, .inl (cI, n, .inl f))) {i x : Int32} {j : Nat} (hi : i = nI j) (hj : j < n) (hn : n < 2147483648) (hdg : decode cc pc = .ok (.iastore, 1))
    (k : ∀ (H1 : Heap) (locs1 : List Loc), va_P D vwCl (ws.set q0 (a, .inl (cI, n, .inl (upd f j x)))) H1 → va_D A (ws.set q0 (a, .inl (cI, n, .inl (upd f j x)))) → va_S A H0 H1 locs1 → W p l e R s m args below meth c H1 locs1 cells slots Q (F0 m (pc + 1) ls rest)) : W p l e R s m args below meth c H locs cells slots Q (F0 m pc ls (.int x :: .int i :: .ref a :: rest)) := by
  subst hi
  refine va_iast hexec hb hK hP hD hS q0 0 ha rfl (vp_in_nI hj hn) hdg ?_
  rw [nI_clamp (Nat.lt_trans hj hn)]
  exact k
theorem z_copy {n : Int32} {sp dp : Int32} {js jd jn : Nat} (hexec : p.tables.exec = Jvm.exec) (hb : c.code = cc) (hml : c.maxLocals = ls.size) {own : String} {index : Nat} (hown : s.vm.findClass own = some m.cls) (hlink : (Cond.methodLink own index arraycopyName).before args s = true) (hnat : (Cond.native arraycopyName).before args s = true) (hstat : (Cond.static arraycopyName).before args s = true) (hini : (Cond.initialized "java/lang/System").before args s = true)
    (hK : va_K D vwCl (zTy cI cB) s) (hP : va_P D vwCl ws H) (hD : va_D A ws) (hS : va_S A H0 H locs) (q0 q1 : Nat) {a0 : Nat} {n0 n1 : Nat} {f g : Nat → Int32} (ha0 : ws[q0]? = some (a0, .inl (cI, n0, .inl f))) (ha1 : ws[q1]? = some (a, .inl (cI, n1, .inl g)))
    (hs : sp = nI js) (hd : dp = nI jd) (hn : n = nI jn) (h4 : js + jn ≤ n0) (h5 : jd + jn ≤ n1) (b0 : n0 < 2147483648) (b1 : n1 < 2147483648) (hframes : 1 ≤ R.frames) (hlocals : (rest.map fun v => v.category).sum + (nativeFrameWords "java/lang/System" "arraycopy" 5 + 11) ≤ R.locals) (hdg : decode cc pc = .ok (.invokestatic index, 3))
    (k : ∀ (H1 : Heap) (locs1 : List Loc), va_P D vwCl (ws.set q1 (a, .inl (cI, n1, .inl (va_cpy f g js jd jn)))) H1 → va_D A (ws.set q1 (a, .inl (cI, n1, .inl (va_cpy f g js jd jn)))) → va_S A H0 H1 locs1 → W p l e R s m args below meth c H1 locs1 cells slots Q (F0 m (pc + 3) ls rest)) : W p l e R s m args below meth c H locs cells slots Q (F0 m pc ls (.int n :: .int dp :: .ref a :: .int sp :: .ref a0 :: rest)) := by
  subst hs; subst hd; subst hn
  have e1 : (nI js).toNatClampNeg = js := nI_clamp (by omega)
  have e2 : (nI jd).toNatClampNeg = jd := nI_clamp (by omega)
  have e3 : (nI jn).toNatClampNeg = jn := nI_clamp (by omega)
  refine va_copyi hexec hb hml hown hlink hnat hstat hini hK hP hD hS q0 q1 0 0 ha0 ha1 rfl rfl rfl (nI_pos (by omega)) (nI_pos (by omega)) (nI_pos (by omega)) (by rw [e1, e3]; exact h4) (by rw [e2, e3]; exact h5) (fun i _ => rfl) hframes hlocals hdg ?_
  rw [e1, e2, e3]
  exact k
end ZRW
end
section
/-! what the class computes, as functions of its cells (row f), in the machine's own numbers -/
def cPlace (v : Int32) : Bool := decide (¬ v < -9999 ∧ ¬ 9999 < v)
def cCourse (h s : Int32) : Bool := decide (¬ h < 0 ∧ ¬ 16 ≤ h ∧ ¬ s < 0 ∧ ¬ 9 < s)
def cShip (f : Nat → Int32) (i : Int32) : Bool := decide (¬ i < 0 ∧ ¬ f 35 < i)
def cOther (f : Nat → Int32) (i : Int32) : Bool := decide (¬ i ≤ 0 ∧ ¬ f 35 < i)
def cPair (f : Nat → Int32) (a b : Int32) : Bool := cShip f a && (cShip f b && decide (¬ a = b))
def vE (h : Int32) : Int32 := eE (h &&& 15).toNatClampNeg
def vN (h : Int32) : Int32 := eN (h &&& 15).toNatClampNeg
def cEast (f : Nat → Int32) (n : Nat) : Int32 := f (5 * n + 3) * vE (f (5 * n + 2))
def cNorth (f : Nat → Int32) (n : Nat) : Int32 := f (5 * n + 3) * vN (f (5 * n + 2))
def cPart (f : Nat → Int32) (n w : Nat) : Int32 := if w = 4 then cEast f n else if w = 5 then cNorth f n else f (5 * n + w)
def putF (f : Nat → Int32) (n : Nat) (x y h s : Int32) : Nat → Int32 := upd (upd (upd (upd (upd f (5 * n + 0) x) (5 * n + 1) y) (5 * n + 2) h) (5 * n + 3) s) (5 * n + 4) 0
def cJoin (f : Nat → Int32) (N : Nat) (x y h s : Int32) : Int32 × (Nat → Int32) :=
  if cPlace x = true ∧ cPlace y = true ∧ cCourse h s = true then (if N < 6 then (nI (N + 1), putF (upd f 35 (nI (N + 1))) (N + 1) x y h s) else (-10004, f)) else (-10002, f)
def nodF (f : Nat → Int32) : Nat → (Nat → Int32)
  | 0 => f
  | k + 1 => upd (nodF f k) (5 * (k + 1) + 4) 0
def cOwn (f : Nat → Int32) (N : Nat) (x y h s : Int32) : Int32 × (Nat → Int32) :=
  if cPlace x = true ∧ cPlace y = true ∧ cCourse h s = true then (nI N, upd (nodF (putF f 0 x y h s) N) 38 0) else (-10002, f)
def cLeave (f : Nat → Int32) (N : Nat) (i : Int32) : Int32 × (Nat → Int32) :=
  if cOther f i = true then (nI (N - 1), upd (va_cpy f f (5 * (i.toNatClampNeg + 1)) (5 * i.toNatClampNeg) (5 * (N - i.toNatClampNeg))) 35 (nI (N - 1))) else (-10002, f)
def cSteer (f : Nat → Int32) (i h s : Int32) : Int32 × (Nat → Int32) :=
  if cShip f i = true ∧ cCourse h s = true then (16 * f (5 * i.toNatClampNeg + 3) + f (5 * i.toNatClampNeg + 2), upd (upd f (5 * i.toNatClampNeg + 2) h) (5 * i.toNatClampNeg + 3) s) else (-10002, f)
def cRule (f : Nat → Int32) (k v : Int32) : Int32 × (Nat → Int32) :=
  if ¬ k < 0 ∧ ¬ 1 < k ∧ ¬ v < 1 ∧ v ≤ (if k = 0 then 999 else 99) then (f (36 + k.toNatClampNeg), upd f (36 + k.toNatClampNeg) v) else (-10002, f)
/-- CLOSEST, not yet in lowest terms -/
def cMs (f : Nat → Int32) (a : Nat) (h s : Int32) (b : Nat) : Int64 × Int64 × Int64 × Int64 :=
  let rx := (f (5 * b + 0) - f (5 * a + 0)).toInt64
  let ry := (f (5 * b + 1) - f (5 * a + 1)).toInt64
  let vx := (f (5 * b + 3) * vE (f (5 * b + 2)) - s * vE h).toInt64
  let vy := (f (5 * b + 3) * vN (f (5 * b + 2)) - s * vN h).toInt64
  if rx * vx + ry * vy < 0 then (-(rx * vx + ry * vy), vx * vx + vy * vy, (rx * vy - ry * vx) * (rx * vy - ry * vx), vx * vx + vy * vy) else (0, 1, rx * rx + ry * ry, 1)
def cRk (t1 t2 t3 t4 safe span : Int64) : Bool := decide (¬ safe * safe * t4 ≤ t3 ∧ ¬ span * t2 < t1)
def cWR (f : Nat → Int32) (a : Nat) (h s : Int32) (b : Nat) : Bool := cRk (cMs f a h s b).1 (cMs f a h s b).2.1 (cMs f a h s b).2.2.1 (cMs f a h s b).2.2.2 (f 36).toInt64 (f 37).toInt64
def cHR (f : Nat → Int32) (a b : Nat) : Bool := cWR f a (f (5 * a + 2)) (f (5 * a + 3)) b
def cMh (f : Nat → Int32) (a b : Nat) : Int64 × Int64 × Int64 × Int64 := cMs f a (f (5 * a + 2)) (f (5 * a + 3)) b
def cPc (t1 t3 safe : Int64) : Bool := decide (t1 = 0 ∧ ¬ t3 < safe * safe)
def cWorse (t o : Int64 × Int64 × Int64 × Int64) : Bool :=
  if o.1 * t.2.1 - t.1 * o.2.1 = 0 then decide (¬ o.2.2.1 * t.2.2.2 ≤ t.2.2.1 * o.2.2.2) else decide (¬ o.1 * t.2.1 - t.1 * o.2.1 ≤ 0)
def sdF : Nat → Int64 → Int64 → Int64
  | 0, p, _ => p
  | k + 1, p, q => if q = 0 then p else sdF k q (p - p / q * q)
def cLow (p q : Int64) (b : Bool) : Int64 := if sdF 100 p q = 0 then 0 else (if b = true then p else q) / sdF 100 p q
def cPt (t1 t2 t3 t4 : Int64) (w : Nat) : Int64 := if w < 2 then cLow t1 t2 (decide (w = 0)) else cLow t3 t4 (decide (w = 2))
def cAbs (x : Int32) : Int32 := if 0 ≤ x then x else 0 - x
def cSec (f : Nat → Int32) (a b : Nat) : Int32 :=
  let ux := vE (f (5 * a + 2))
  let uy := vN (f (5 * a + 2))
  let rx := f (5 * b + 0) - f (5 * a + 0)
  let ry := f (5 * b + 1) - f (5 * a + 1)
  let p := ux * rx + uy * ry
  let q := ux * ry - uy * rx
  if rx = 0 ∧ ry = 0 then 0 else if ¬ p ≤ 0 ∧ ¬ p < 4 * cAbs q then 0 else if ¬ 0 ≤ p ∧ ¬ (-2) * p < cAbs q then 3 else if 0 ≤ q then 2 else 1
def cTb (m n : Int32) : Int32 := if n = 3 then 1 else if m = 3 then 2 else if m = 1 then 1 else if m = 2 then 2 else if n = 1 then 2 else 1
def cTab (f : Nat → Int32) (a b : Nat) : Int32 := if cHR f a b = true then cTb (cSec f a b) (cSec f b a) else 0
def cPC (f : Nat → Int32) (i : Nat) : Bool := cPc (cMh f 0 i).1 (cMh f 0 i).2.2.1 (f 36).toInt64
def cNd (f : Nat → Int32) (i : Nat) : Int32 := if f (5 * i + 4) = 0 then cTab f 0 i else if cPC f i = true then 0 else f (5 * i + 4)
def lkF (f : Nat → Int32) : Nat → (Nat → Int32)
  | 0 => f
  | k + 1 => upd (lkF f k) (5 * (k + 1) + 4) (cNd (lkF f k) (k + 1))
def gwF (f : Nat → Int32) : Nat → Int32
  | 0 => 0
  | k + 1 => if f (5 * (k + 1) + 4) = 1 then gwF f k ||| ((1 : Int32) <<< (nI (k + 1) &&& 31)) else gwF f k
def wsF (f : Nat → Int32) (w : Int64 × Int64 × Int64 × Int64) : Nat → Int32 × Int64 × Int64 × Int64 × Int64
  | 0 => (-10001, w)
  | k + 1 => if cHR f 0 (k + 1) = true ∧ ((wsF f w k).1 = -10001 ∨ cWorse (cMh f 0 (k + 1)) (wsF f w k).2 = true) then (nI (k + 1), cMh f 0 (k + 1)) else wsF f w k
def cClr (f : Nat → Int32) (N a : Nat) (h s : Int32) : Bool := (List.range (N + 1)).all (fun b => decide (b = a) || !cWR f a h s b)
theorem cClr_t {f : Nat → Int32} {N a : Nat} {h s : Int32} (q : ∀ b, b < N + 1 → b ≠ a → cWR f a h s b = false) : cClr f N a h s = true := by
  refine List.all_eq_true.mpr (fun b hb => ?_)
  have hb' := List.mem_range.mp hb
  by_cases e : b = a
  · simp [e]
  · simp [q b hb' e]
theorem cClr_f {f : Nat → Int32} {N a b : Nat} {h s : Int32} (hb : b ≤ N) (e : b ≠ a) (q : cWR f a h s b = true) : cClr f N a h s = false := by
  cases hc : cClr f N a h s with
  | false => rfl
  | true =>
    have := List.all_eq_true.mp hc b (List.mem_range.mpr (by omega))
    simp [e, q] at this
def blF (f : Nat → Int32) (i : Nat) : Nat → Int32
  | 0 => 0
  | k + 1 => if cWR f 0 (nI k) (f 3) i = true then blF f i k ||| ((1 : Int32) <<< (nI k &&& 31)) else blF f i k
def cMg (f : Nat → Int32) (N a : Nat) : Bool := if a = 0 then decide (¬ gwF f N = 0) else (List.range (N + 1)).any (fun b => decide (¬ b = a) && decide (cTab f a b = 1))
theorem cMg_t {f : Nat → Int32} {N a b : Nat} (ha : ¬ a = 0) (hb : b ≤ N) (e : b ≠ a) (q : cTab f a b = 1) : cMg f N a = true := by
  rw [cMg, if_neg ha]
  exact List.any_eq_true.mpr ⟨b, List.mem_range.mpr (by omega), by simp [e, q]⟩
theorem cMg_f {f : Nat → Int32} {N a : Nat} (ha : ¬ a = 0) (q : ∀ b, b < N + 1 → b ≠ a → ¬ cTab f a b = 1) : cMg f N a = false := by
  cases hc : cMg f N a with
  | false => rfl
  | true =>
    rw [cMg, if_neg ha] at hc
    obtain ⟨b, hb, h⟩ := List.any_eq_true.mp hc
    simp at h
    exact absurd h.2 (q b (List.mem_range.mp hb) h.1)
def cTh (f : Nat → Int32) (a k : Nat) : Int32 := if k < 8 then (f (5 * a + 2) + nI (k + 1)) &&& 15 else (f (5 * a + 2) - nI (k - 7)) &&& 15
def cTurn (f : Nat → Int32) (N a : Nat) : Int32 := match (List.range 15).find? (fun k => cClr f N a (cTh f a k) (f (5 * a + 3))) with
  | some k => cTh f a k
  | none => if cClr f N a (f (5 * a + 2)) 0 = true then 16 else 17
theorem find_hit {p : Nat → Bool} : ∀ (n t : Nat), t < n → (∀ j, j < t → p j = false) → p t = true → (List.range n).find? p = some t := by
  intro n t ht hj hp
  rw [List.find?_eq_some_iff_getElem]
  refine ⟨hp, t, by simpa using ht, by simp, fun j hjt => ?_⟩
  simp [hj j hjt]
theorem find_miss {p : Nat → Bool} (n : Nat) (hj : ∀ j, j < n → p j = false) : (List.range n).find? p = none := by
  rw [List.find?_eq_none]
  intro x hx
  simp [hj x (List.mem_range.mp hx)]
theorem cTurn_hit {f : Nat → Int32} {N a t : Nat} (ht : t < 15) (hj : ∀ j, j < t → cClr f N a (cTh f a j) (f (5 * a + 3)) = false) (hp : cClr f N a (cTh f a t) (f (5 * a + 3)) = true) : cTurn f N a = cTh f a t := by
  rw [cTurn, find_hit 15 t ht hj hp]
theorem cTurn_miss {f : Nat → Int32} {N a : Nat} (hj : ∀ j, j < 15 → cClr f N a (cTh f a j) (f (5 * a + 3)) = false) : cTurn f N a = if cClr f N a (f (5 * a + 2)) 0 = true then 16 else 17 := by
  rw [cTurn, find_miss 15 hj]
def cAdv (f : Nat → Int32) (N a : Nat) : Int32 := if cMg f N a = true then cTurn f N a else f (5 * a + 2)
def cFol (f : Nat → Int32) (r : Int32) : Nat → Int32 := if r = 16 then upd (if 16 ≤ r then f else upd f 2 r) 3 0 else (if 16 ≤ r then f else upd f 2 r)
def cStay (f : Nat → Int32) (N : Nat) (k : Int32) : Bool := (List.range (N + 1)).all (fun i => cPlace (f (5 * i + 0) + k * cEast f i) && cPlace (f (5 * i + 1) + k * cNorth f i))
def mvS (g : Nat → Int32) (k : Nat) : Nat → Int32 := upd (upd g (5 * k + 0) (g (5 * k + 0) + cEast g k)) (5 * k + 1) ((upd g (5 * k + 0) (g (5 * k + 0) + cEast g k)) (5 * k + 1) + cNorth (upd g (5 * k + 0) (g (5 * k + 0) + cEast g k)) k)
def mvF (f : Nat → Int32) : Nat → (Nat → Int32)
  | 0 => f
  | k + 1 => mvS (mvF f k) k
def goF (f : Nat → Int32) (N : Nat) : Nat → (Nat → Int32)
  | 0 => f
  | k + 1 => lkF (mvF (goF f N k) (N + 1)) N
def cGo (f : Nat → Int32) (N : Nat) (k : Int32) : Int32 × (Nat → Int32) :=
  if ¬ k < 1 ∧ k ≤ 60 then (if cStay f N k = true then (gwF (upd (goF f N k.toNatClampNeg) 38 ((goF f N k.toNatClampNeg) 38 + k)) N, upd (goF f N k.toNatClampNeg) 38 ((goF f N k.toNatClampNeg) 38 + k)) else (-10003, f)) else (-10002, f)
theorem upd_self (f : Nat → Int32) (k : Nat) : upd f k (f k) = f := by
  funext j
  by_cases h : j = k
  · subst h; simp [upd]
  · simp [upd, h]
theorem upd_ne {f : Nat → Int32} {k j : Nat} {v : Int32} (h : ¬ j = k) : upd f k v j = f j := by simp [upd, h]
theorem upd_eq {f : Nat → Int32} {k : Nat} {v : Int32} : upd f k v k = v := by simp [upd]
theorem putF_ge {f : Nat → Int32} {n j : Nat} {x y h s : Int32} (q : 5 * n + 4 < j) : putF f n x y h s j = f j := by
  simp only [putF, upd, if_neg (show ¬ j = 5 * n + 0 by omega), if_neg (show ¬ j = 5 * n + 1 by omega), if_neg (show ¬ j = 5 * n + 2 by omega), if_neg (show ¬ j = 5 * n + 3 by omega), if_neg (show ¬ j = 5 * n + 4 by omega)]
theorem nodF_ge {f : Nat → Int32} {j : Nat} : ∀ {n : Nat}, 5 * n + 4 < j → nodF f n j = f j
  | 0, _ => rfl
  | n + 1, q => by rw [nodF, upd_ne (by omega)]; exact nodF_ge (by omega)
theorem lkF_ge {f : Nat → Int32} {j : Nat} : ∀ {n : Nat}, 5 * n + 4 < j → lkF f n j = f j
  | 0, _ => rfl
  | n + 1, q => by rw [lkF, upd_ne (by omega)]; exact lkF_ge (by omega)
theorem mvS_ge {f : Nat → Int32} {k j : Nat} (q : 5 * k + 1 < j) : mvS f k j = f j := by rw [mvS, upd_ne (by omega), upd_ne (by omega)]
theorem mvF_ge {f : Nat → Int32} {j : Nat} : ∀ {n : Nat}, 5 * n < j + 4 → mvF f n j = f j
  | 0, _ => rfl
  | n + 1, q => by rw [mvF, mvS_ge (by omega)]; exact mvF_ge (by omega)
theorem goF_ge {f : Nat → Int32} {N j : Nat} (q : 5 * N + 4 < j) : ∀ {n : Nat}, goF f N n j = f j
  | 0 => rfl
  | n + 1 => by rw [goF, lkF_ge q, mvF_ge (by omega)]; exact goF_ge q
theorem lk_tab {g : Nat → Int32} {k : Nat} (h : g (5 * (k + 1) + 4) = 0) : upd g (5 * (k + 1) + 4) (cTab g 0 (k + 1)) = upd g (5 * (k + 1) + 4) (cNd g (k + 1)) := by rw [cNd, if_pos h]
theorem lk_clr {g : Nat → Int32} {k : Nat} (h : ¬ g (5 * (k + 1) + 4) = 0) (h2 : cPC g (k + 1) = true) : upd g (5 * (k + 1) + 4) 0 = upd g (5 * (k + 1) + 4) (cNd g (k + 1)) := by rw [cNd, if_neg h, if_pos h2]
theorem lk_keep {g : Nat → Int32} {k : Nat} (h : ¬ g (5 * (k + 1) + 4) = 0) (h2 : cPC g (k + 1) = false) : g = upd g (5 * (k + 1) + 4) (cNd g (k + 1)) := by rw [cNd, if_neg h, if_neg (by rw [h2]; decide), upd_self]
theorem cStay_t {f : Nat → Int32} {N : Nat} {k : Int32} (q : ∀ i, i < N + 1 → cPlace (f (5 * i + 0) + k * cEast f i) = true ∧ cPlace (f (5 * i + 1) + k * cNorth f i) = true) : cStay f N k = true := by
  refine List.all_eq_true.mpr (fun b hb => ?_)
  have := q b (List.mem_range.mp hb)
  rw [this.1, this.2]; rfl
theorem cStay_f {f : Nat → Int32} {N i : Nat} {k : Int32} (hi : i ≤ N) (q : cPlace (f (5 * i + 0) + k * cEast f i) = false ∨ cPlace (f (5 * i + 1) + k * cNorth f i) = false) : cStay f N k = false := by
  cases hc : cStay f N k with
  | false => rfl
  | true =>
    have := List.all_eq_true.mp hc i (List.mem_range.mpr (by omega))
    rcases q with q | q <;> simp [q] at this
theorem z_all {P : Nat → Prop} {n : Nat} (h : ∀ b, b < n → P b) (hn : P n) : ∀ b, b < n + 1 → P b := by
  intro b hb
  rcases Nat.lt_or_ge b n with q | q
  · exact h b q
  · rw [show b = n by omega]; exact hn
theorem cTh_lo {f : Nat → Int32} {a k : Nat} (h : k < 8) : (f (5 * a + 2) + nI (k + 1)) &&& 15 = cTh f a k := by rw [cTh, if_pos h]
theorem cTh_hi {f : Nat → Int32} {a k : Nat} : (f (5 * a + 2) - nI (k + 1)) &&& 15 = cTh f a (8 + k) := by rw [cTh, if_neg (by omega), show 8 + k - 7 = k + 1 by omega]
def fsF (f : Nat → Int32) (i : Nat) (h : Int64) : Nat → Int64
  | 0 => h
  | k + 1 => 31 * fsF f i h k + (cPart f i k).toInt64
def cFs (f : Nat → Int32) (N i : Nat) (h : Int64) : Int64 := 31 * fsF f i h 4 + (cAdv f N i).toInt64
def fpF (m : Int64 × Int64 × Int64 × Int64) (h : Int64) : Nat → Int64
  | 0 => h
  | k + 1 => 31 * fpF m h k + cPt m.1 m.2.1 m.2.2.1 m.2.2.2 k
def cFo (f : Nat → Int32) (i : Nat) (h : Int64) : Int64 := 31 * (31 * (31 * fpF (cMh f 0 i) (31 * h + (f (5 * i + 4)).toInt64) 4 + (cSec f 0 i).toInt64) + (cSec f i 0).toInt64) + (blF f i 16).toInt64
end
section
theorem sdF_step {t : Nat} {p q : Int64} (ht : t < 100) (hq : ¬ q = 0) : sdF (100 - t) p q = sdF (100 - (t + 1)) q (p - p / q * q) := by
  rw [show 100 - t = (100 - (t + 1)) + 1 by omega, sdF, if_neg hq]
theorem sdF_zero {k : Nat} {p q : Int64} (hq : q = 0) : sdF k p q = p := by
  cases k with
  | zero => rfl
  | succ k => rw [sdF, if_pos hq]
set_option maxHeartbeats 4000000 in
set_option maxRecDepth 100000 in
theorem kX0_take (l : Launch) (D : va_G) (cI cB : ClassId) (tE tN : Nat) (wF : Nat) (aF : Nat) (w1 : Int64) (w2 : Int64) (w3 : Int64) (w4 : Int64) (t1 : Int64) (t2 : Int64) (t3 : Int64) (t4 : Int64) (sz : Nat)  : zV l yX0_take wsX0_take ({ frames := 0, cells := 0, slots := 0, locals := 0 }) D cI cB tE tN [.ref wF, .ref aF] [(wF, .inr (0, [.long w1, .long w2, .long w3, .long w4])), (aF, .inr (0, [.long t1, .long t2, .long t3, .long t4]))] sz (fun u : Unit => [(wF, .inr (0, [.long t1, .long t2, .long t3, .long t4])), (aF, .inr (0, [.long t1, .long t2, .long t3, .long t4]))]) (fun (u : Unit) => True) 0 0 := by
  refine zV_mk (cc := cX0_take) (maxL := 2) (by decide) rfl (Nat.le_of_ble_eq_true rfl) ?_
  intro p e s m below meth c A Q ls S0 hname hA hK hP hD hT hS hQ hl
  obtain ⟨hx, hb, hml, hown, hts⟩ := id S0
  have hl : lv_has ls 2 [(0, .ref wF), (1, .ref aF)] := hl
  have L16 : (Cond.fieldLink RX0 16 "PastAndClear$Approach" "timeAbove" "J").before ([.ref wF, .ref aF] : List Value).toArray s = true := hts (.fieldLink RX0 16 "PastAndClear$Approach" "timeAbove" "J") (by decide +kernel)
  have N0 : ∀ w ∈ u_ws RX0 TX0 4, w ∈ wsX0_take := by decide +kernel
  have L7 : (Cond.fieldLink RX0 7 "PastAndClear$Approach" "timeBelow" "J").before ([.ref wF, .ref aF] : List Value).toArray s = true := hts (.fieldLink RX0 7 "PastAndClear$Approach" "timeBelow" "J") (by decide +kernel)
  have L19 : (Cond.fieldLink RX0 19 "PastAndClear$Approach" "nearAbove" "J").before ([.ref wF, .ref aF] : List Value).toArray s = true := hts (.fieldLink RX0 19 "PastAndClear$Approach" "nearAbove" "J") (by decide +kernel)
  have L13 : (Cond.fieldLink RX0 13 "PastAndClear$Approach" "nearBelow" "J").before ([.ref wF, .ref aF] : List Value).toArray s = true := hts (.fieldLink RX0 13 "PastAndClear$Approach" "nearBelow" "J") (by decide +kernel)
  refine lv_aload_n hx hb dX0_take_0 rfl (lv_at hl 0 rfl) ?_
  refine lv_aload_n hx hb dX0_take_1 rfl (lv_at hl 1 rfl) ?_
  refine va_get (D := D) (ci := 0) (v := .long t1) (C := RX0) (T := TX0) (N := 4) hx hb hts N0 hown hK hP 1 rfl rfl 0 (by decide) L16 (fun _ h9 => h9) rfl dX0_take_2 ?_
  refine va_put (D := D) (ci := 0) (v := .long t1) (ty := .long) (C := RX0) (T := TX0) (N := 4) hx hb hts N0 tyX0 tyX0_ok nmX0 hown hK hP hD hS 0 rfl rfl 0 (by decide) L16 (fun _ h9 => h9) rfl (by decide +kernel) rfl rfl (Nat.le_of_ble_eq_true rfl) dX0_take_5 (fun H locs hP hD hS => ?_)
  have hP : va_P D vwCl [(wF, .inr (0, [.long t1, .long w2, .long w3, .long w4])), (aF, .inr (0, [.long t1, .long t2, .long t3, .long t4]))] H := hP
  have hD : va_D A [(wF, .inr (0, [.long t1, .long w2, .long w3, .long w4])), (aF, .inr (0, [.long t1, .long t2, .long t3, .long t4]))] := hD
  refine lv_aload_n hx hb dX0_take_8 rfl (lv_at hl 0 rfl) ?_
  refine lv_aload_n hx hb dX0_take_9 rfl (lv_at hl 1 rfl) ?_
  refine va_get (D := D) (ci := 0) (v := .long t2) (C := RX0) (T := TX0) (N := 4) hx hb hts N0 hown hK hP 1 rfl rfl 1 (by decide) L7 (fun _ h9 => h9) rfl dX0_take_10 ?_
  refine va_put (D := D) (ci := 0) (v := .long t2) (ty := .long) (C := RX0) (T := TX0) (N := 4) hx hb hts N0 tyX0 tyX0_ok nmX0 hown hK hP hD hS 0 rfl rfl 1 (by decide) L7 (fun _ h9 => h9) rfl (by decide +kernel) rfl rfl (Nat.le_of_ble_eq_true rfl) dX0_take_13 (fun H locs hP hD hS => ?_)
  have hP : va_P D vwCl [(wF, .inr (0, [.long t1, .long t2, .long w3, .long w4])), (aF, .inr (0, [.long t1, .long t2, .long t3, .long t4]))] H := hP
  have hD : va_D A [(wF, .inr (0, [.long t1, .long t2, .long w3, .long w4])), (aF, .inr (0, [.long t1, .long t2, .long t3, .long t4]))] := hD
  refine lv_aload_n hx hb dX0_take_16 rfl (lv_at hl 0 rfl) ?_
  refine lv_aload_n hx hb dX0_take_17 rfl (lv_at hl 1 rfl) ?_
  refine va_get (D := D) (ci := 0) (v := .long t3) (C := RX0) (T := TX0) (N := 4) hx hb hts N0 hown hK hP 1 rfl rfl 2 (by decide) L19 (fun _ h9 => h9) rfl dX0_take_18 ?_
  refine va_put (D := D) (ci := 0) (v := .long t3) (ty := .long) (C := RX0) (T := TX0) (N := 4) hx hb hts N0 tyX0 tyX0_ok nmX0 hown hK hP hD hS 0 rfl rfl 2 (by decide) L19 (fun _ h9 => h9) rfl (by decide +kernel) rfl rfl (Nat.le_of_ble_eq_true rfl) dX0_take_21 (fun H locs hP hD hS => ?_)
  have hP : va_P D vwCl [(wF, .inr (0, [.long t1, .long t2, .long t3, .long w4])), (aF, .inr (0, [.long t1, .long t2, .long t3, .long t4]))] H := hP
  have hD : va_D A [(wF, .inr (0, [.long t1, .long t2, .long t3, .long w4])), (aF, .inr (0, [.long t1, .long t2, .long t3, .long t4]))] := hD
  refine lv_aload_n hx hb dX0_take_24 rfl (lv_at hl 0 rfl) ?_
  refine lv_aload_n hx hb dX0_take_25 rfl (lv_at hl 1 rfl) ?_
  refine va_get (D := D) (ci := 0) (v := .long t4) (C := RX0) (T := TX0) (N := 4) hx hb hts N0 hown hK hP 1 rfl rfl 3 (by decide) L13 (fun _ h9 => h9) rfl dX0_take_26 ?_
  refine va_put (D := D) (ci := 0) (v := .long t4) (ty := .long) (C := RX0) (T := TX0) (N := 4) hx hb hts N0 tyX0 tyX0_ok nmX0 hown hK hP hD hS 0 rfl rfl 3 (by decide) L13 (fun _ h9 => h9) rfl (by decide +kernel) rfl rfl (Nat.le_of_ble_eq_true rfl) dX0_take_29 (fun H locs hP hD hS => ?_)
  have hP : va_P D vwCl [(wF, .inr (0, [.long t1, .long t2, .long t3, .long t4])), (aF, .inr (0, [.long t1, .long t2, .long t3, .long t4]))] H := hP
  have hD : va_D A [(wF, .inr (0, [.long t1, .long t2, .long t3, .long t4])), (aF, .inr (0, [.long t1, .long t2, .long t3, .long t4]))] := hD
  exact hQ () _ _ _ _ (trivial) hP hD hS dX0_take_32

set_option maxHeartbeats 4000000 in
set_option maxRecDepth 100000 in
theorem kX0_isRisk (l : Launch) (D : va_G) (cI cB : ClassId) (tE tN : Nat) (aF : Nat) (t1 : Int64) (t2 : Int64) (t3 : Int64) (t4 : Int64) (sf : Int64) (sp : Int64) (sz : Nat)  : zI l yX0_isRisk wsX0_isRisk ({ frames := 0, cells := 0, slots := 0, locals := 0 }) D cI cB tE tN [.ref aF, .long sf, .long sp] [(aF, .inr (0, [.long t1, .long t2, .long t3, .long t4]))] sz (fun u : Unit => [(aF, .inr (0, [.long t1, .long t2, .long t3, .long t4]))]) (fun (r : Int32) (u : Unit) => r = b2i (cRk t1 t2 t3 t4 sf sp)) 0 0 := by
  refine zI_mk (cc := cX0_isRisk) (maxL := 5) (rt := .boolean) (by decide) rfl (Nat.le_of_ble_eq_true rfl) ?_
  intro p e s m below meth c A Q ls S0 hname hA hK hP hD hT hS hQ hl
  obtain ⟨hx, hb, hml, hown, hts⟩ := id S0
  have hl : lv_has ls 5 [(0, .ref aF), (1, .long sf), (3, .long sp)] := hl
  have L19 : (Cond.fieldLink RX0 19 "PastAndClear$Approach" "nearAbove" "J").before ([.ref aF, .long sf, .long sp] : List Value).toArray s = true := hts (.fieldLink RX0 19 "PastAndClear$Approach" "nearAbove" "J") (by decide +kernel)
  have N0 : ∀ w ∈ u_ws RX0 TX0 4, w ∈ wsX0_isRisk := by decide +kernel
  have L13 : (Cond.fieldLink RX0 13 "PastAndClear$Approach" "nearBelow" "J").before ([.ref aF, .long sf, .long sp] : List Value).toArray s = true := hts (.fieldLink RX0 13 "PastAndClear$Approach" "nearBelow" "J") (by decide +kernel)
  have L16 : (Cond.fieldLink RX0 16 "PastAndClear$Approach" "timeAbove" "J").before ([.ref aF, .long sf, .long sp] : List Value).toArray s = true := hts (.fieldLink RX0 16 "PastAndClear$Approach" "timeAbove" "J") (by decide +kernel)
  have L7 : (Cond.fieldLink RX0 7 "PastAndClear$Approach" "timeBelow" "J").before ([.ref aF, .long sf, .long sp] : List Value).toArray s = true := hts (.fieldLink RX0 7 "PastAndClear$Approach" "timeBelow" "J") (by decide +kernel)
  refine lv_aload_n hx hb dX0_isRisk_0 rfl (lv_at hl 0 rfl) ?_
  refine va_get (D := D) (ci := 0) (v := .long t3) (C := RX0) (T := TX0) (N := 4) hx hb hts N0 hown hK hP 0 rfl rfl 2 (by decide) L19 (fun _ h9 => h9) rfl dX0_isRisk_1 ?_
  refine lv_lload_n hx hb dX0_isRisk_4 rfl (lv_at hl 1 rfl) ?_
  refine lv_lload_n hx hb dX0_isRisk_5 rfl (lv_at hl 1 rfl) ?_
  refine lv_lmul hx hb dX0_isRisk_6 ?_
  refine lv_aload_n hx hb dX0_isRisk_7 rfl (lv_at hl 0 rfl) ?_
  refine va_get (D := D) (ci := 0) (v := .long t4) (C := RX0) (T := TX0) (N := 4) hx hb hts N0 hown hK hP 0 rfl rfl 3 (by decide) L13 (fun _ h9 => h9) rfl dX0_isRisk_8 ?_
  refine lv_lmul hx hb dX0_isRisk_11 ?_
  refine W.lcmp hx hb dX0_isRisk_12 ?_
  refine lv_if_ge (tgt := 34) hx hb dX0_isRisk_13 (by decide) (fun c_1 => ?_) (fun c_1 => ?_)
  · skip
    have c_1 := (lg_cmp_ge _ _).mp c_1
    refine lv_iconst (v := 0) hx hb dX0_isRisk_34 (by decide) ?_
    exact hQ 0 () _ _ _ _ (rfl) (by simp [b2i, cRk, Int64.not_lt, Int64.not_le, c_1]) hP hD hS dX0_isRisk_35
  · skip
    have c_1 := fun h => c_1 ((lg_cmp_ge _ _).mpr h)
    refine lv_aload_n hx hb dX0_isRisk_16 rfl (lv_at hl 0 rfl) ?_
    refine va_get (D := D) (ci := 0) (v := .long t1) (C := RX0) (T := TX0) (N := 4) hx hb hts N0 hown hK hP 0 rfl rfl 0 (by decide) L16 (fun _ h9 => h9) rfl dX0_isRisk_17 ?_
    refine lv_lload_n hx hb dX0_isRisk_20 rfl (lv_at hl 2 rfl) ?_
    refine lv_aload_n hx hb dX0_isRisk_21 rfl (lv_at hl 0 rfl) ?_
    refine va_get (D := D) (ci := 0) (v := .long t2) (C := RX0) (T := TX0) (N := 4) hx hb hts N0 hown hK hP 0 rfl rfl 1 (by decide) L7 (fun _ h9 => h9) rfl dX0_isRisk_22 ?_
    refine lv_lmul hx hb dX0_isRisk_25 ?_
    refine W.lcmp hx hb dX0_isRisk_26 ?_
    refine lv_if_gt (tgt := 34) hx hb dX0_isRisk_27 (by decide) (fun c_2 => ?_) (fun c_2 => ?_)
    · skip
      have c_2 := (lg_cmp_gt _ _).mp c_2
      refine lv_iconst (v := 0) hx hb dX0_isRisk_34 (by decide) ?_
      exact hQ 0 () _ _ _ _ (rfl) (by simp [b2i, cRk, Int64.not_lt, Int64.not_le, c_1, c_2]) hP hD hS dX0_isRisk_35
    · skip
      have c_2 := fun h => c_2 ((lg_cmp_gt _ _).mpr h)
      refine lv_iconst (v := 1) hx hb dX0_isRisk_30 (by decide) ?_
      refine lv_goto (tgt := 35) hx hb dX0_isRisk_31 (by decide) ?_
      exact hQ 1 () _ _ _ _ (rfl) (by simp [b2i, cRk, Int64.not_lt, Int64.not_le, c_1, c_2]) hP hD hS dX0_isRisk_35

set_option maxHeartbeats 4000000 in
set_option maxRecDepth 100000 in
theorem kX0_isPastAndClear (l : Launch) (D : va_G) (cI cB : ClassId) (tE tN : Nat) (aF : Nat) (t1 : Int64) (t2 : Int64) (t3 : Int64) (t4 : Int64) (sf : Int64) (sz : Nat)  : zI l yX0_isPastAndClear wsX0_isPastAndClear ({ frames := 0, cells := 0, slots := 0, locals := 0 }) D cI cB tE tN [.ref aF, .long sf] [(aF, .inr (0, [.long t1, .long t2, .long t3, .long t4]))] sz (fun u : Unit => [(aF, .inr (0, [.long t1, .long t2, .long t3, .long t4]))]) (fun (r : Int32) (u : Unit) => r = b2i (cPc t1 t3 sf)) 0 0 := by
  refine zI_mk (cc := cX0_isPastAndClear) (maxL := 3) (rt := .boolean) (by decide) rfl (Nat.le_of_ble_eq_true rfl) ?_
  intro p e s m below meth c A Q ls S0 hname hA hK hP hD hT hS hQ hl
  obtain ⟨hx, hb, hml, hown, hts⟩ := id S0
  have hl : lv_has ls 3 [(0, .ref aF), (1, .long sf)] := hl
  have L16 : (Cond.fieldLink RX0 16 "PastAndClear$Approach" "timeAbove" "J").before ([.ref aF, .long sf] : List Value).toArray s = true := hts (.fieldLink RX0 16 "PastAndClear$Approach" "timeAbove" "J") (by decide +kernel)
  have N0 : ∀ w ∈ u_ws RX0 TX0 4, w ∈ wsX0_isPastAndClear := by decide +kernel
  have L19 : (Cond.fieldLink RX0 19 "PastAndClear$Approach" "nearAbove" "J").before ([.ref aF, .long sf] : List Value).toArray s = true := hts (.fieldLink RX0 19 "PastAndClear$Approach" "nearAbove" "J") (by decide +kernel)
  refine lv_aload_n hx hb dX0_isPastAndClear_0 rfl (lv_at hl 0 rfl) ?_
  refine va_get (D := D) (ci := 0) (v := .long t1) (C := RX0) (T := TX0) (N := 4) hx hb hts N0 hown hK hP 0 rfl rfl 0 (by decide) L16 (fun _ h9 => h9) rfl dX0_isPastAndClear_1 ?_
  refine lv_lconst (v := 0) hx hb dX0_isPastAndClear_4 (by decide) ?_
  refine W.lcmp hx hb dX0_isPastAndClear_5 ?_
  refine lv_if_ne (tgt := 24) hx hb dX0_isPastAndClear_6 (by decide) (fun c_1 => ?_) (fun c_1 => ?_)
  · skip
    have c_1 := fun h => c_1 ((lg_cmp_eq _ _).mpr h)
    refine lv_iconst (v := 0) hx hb dX0_isPastAndClear_24 (by decide) ?_
    exact hQ 0 () _ _ _ _ (rfl) (by simp [b2i, cPc, c_1]) hP hD hS dX0_isPastAndClear_25
  · skip
    have c_1 := (lg_cmp_eq _ _).mp c_1
    refine lv_aload_n hx hb dX0_isPastAndClear_9 rfl (lv_at hl 0 rfl) ?_
    refine va_get (D := D) (ci := 0) (v := .long t3) (C := RX0) (T := TX0) (N := 4) hx hb hts N0 hown hK hP 0 rfl rfl 2 (by decide) L19 (fun _ h9 => h9) rfl dX0_isPastAndClear_10 ?_
    refine lv_lload_n hx hb dX0_isPastAndClear_13 rfl (lv_at hl 1 rfl) ?_
    refine lv_lload_n hx hb dX0_isPastAndClear_14 rfl (lv_at hl 1 rfl) ?_
    refine lv_lmul hx hb dX0_isPastAndClear_15 ?_
    refine W.lcmp hx hb dX0_isPastAndClear_16 ?_
    refine lv_if_lt (tgt := 24) hx hb dX0_isPastAndClear_17 (by decide) (fun c_2 => ?_) (fun c_2 => ?_)
    · skip
      have c_2 := (lg_cmp_lt _ _).mp c_2
      refine lv_iconst (v := 0) hx hb dX0_isPastAndClear_24 (by decide) ?_
      exact hQ 0 () _ _ _ _ (rfl) (by simp [b2i, cPc, c_1, c_2]) hP hD hS dX0_isPastAndClear_25
    · skip
      have c_2 := fun h => c_2 ((lg_cmp_lt _ _).mpr h)
      refine lv_iconst (v := 1) hx hb dX0_isPastAndClear_20 (by decide) ?_
      refine lv_goto (tgt := 25) hx hb dX0_isPastAndClear_21 (by decide) ?_
      exact hQ 1 () _ _ _ _ (rfl) (by simp [b2i, cPc, c_1, c_2]) hP hD hS dX0_isPastAndClear_25

set_option maxHeartbeats 4000000 in
set_option maxRecDepth 100000 in
theorem kX0_isWorse (l : Launch) (D : va_G) (cI cB : ClassId) (tE tN : Nat) (aF : Nat) (wF : Nat) (t1 : Int64) (t2 : Int64) (t3 : Int64) (t4 : Int64) (w1 : Int64) (w2 : Int64) (w3 : Int64) (w4 : Int64) (sz : Nat)  : zI l yX0_isWorse wsX0_isWorse ({ frames := 0, cells := 0, slots := 0, locals := 0 }) D cI cB tE tN [.ref aF, .ref wF] [(aF, .inr (0, [.long t1, .long t2, .long t3, .long t4])), (wF, .inr (0, [.long w1, .long w2, .long w3, .long w4]))] sz (fun u : Unit => [(aF, .inr (0, [.long t1, .long t2, .long t3, .long t4])), (wF, .inr (0, [.long w1, .long w2, .long w3, .long w4]))]) (fun (r : Int32) (u : Unit) => r = b2i (cWorse (t1, t2, t3, t4) (w1, w2, w3, w4))) 0 0 := by
  refine zI_mk (cc := cX0_isWorse) (maxL := 4) (rt := .boolean) (by decide) rfl (Nat.le_of_ble_eq_true rfl) ?_
  intro p e s m below meth c A Q ls S0 hname hA hK hP hD hT hS hQ hl
  obtain ⟨hx, hb, hml, hown, hts⟩ := id S0
  have hl : lv_has ls 4 [(2, .long ((w1 * t2) - (t1 * w2))), (0, .ref aF), (1, .ref wF)] := hl
  have L16 : (Cond.fieldLink RX0 16 "PastAndClear$Approach" "timeAbove" "J").before ([.ref aF, .ref wF] : List Value).toArray s = true := hts (.fieldLink RX0 16 "PastAndClear$Approach" "timeAbove" "J") (by decide +kernel)
  have N0 : ∀ w ∈ u_ws RX0 TX0 4, w ∈ wsX0_isWorse := by decide +kernel
  have L7 : (Cond.fieldLink RX0 7 "PastAndClear$Approach" "timeBelow" "J").before ([.ref aF, .ref wF] : List Value).toArray s = true := hts (.fieldLink RX0 7 "PastAndClear$Approach" "timeBelow" "J") (by decide +kernel)
  have L19 : (Cond.fieldLink RX0 19 "PastAndClear$Approach" "nearAbove" "J").before ([.ref aF, .ref wF] : List Value).toArray s = true := hts (.fieldLink RX0 19 "PastAndClear$Approach" "nearAbove" "J") (by decide +kernel)
  have L13 : (Cond.fieldLink RX0 13 "PastAndClear$Approach" "nearBelow" "J").before ([.ref aF, .ref wF] : List Value).toArray s = true := hts (.fieldLink RX0 13 "PastAndClear$Approach" "nearBelow" "J") (by decide +kernel)
  refine lv_aload_n hx hb dX0_isWorse_0 rfl (lv_at hl 1 rfl) ?_
  refine va_get (D := D) (ci := 0) (v := .long w1) (C := RX0) (T := TX0) (N := 4) hx hb hts N0 hown hK hP 1 rfl rfl 0 (by decide) L16 (fun _ h9 => h9) rfl dX0_isWorse_1 ?_
  refine lv_aload_n hx hb dX0_isWorse_4 rfl (lv_at hl 0 rfl) ?_
  refine va_get (D := D) (ci := 0) (v := .long t2) (C := RX0) (T := TX0) (N := 4) hx hb hts N0 hown hK hP 0 rfl rfl 1 (by decide) L7 (fun _ h9 => h9) rfl dX0_isWorse_5 ?_
  refine lv_lmul hx hb dX0_isWorse_8 ?_
  refine lv_aload_n hx hb dX0_isWorse_9 rfl (lv_at hl 0 rfl) ?_
  refine va_get (D := D) (ci := 0) (v := .long t1) (C := RX0) (T := TX0) (N := 4) hx hb hts N0 hown hK hP 0 rfl rfl 0 (by decide) L16 (fun _ h9 => h9) rfl dX0_isWorse_10 ?_
  refine lv_aload_n hx hb dX0_isWorse_13 rfl (lv_at hl 1 rfl) ?_
  refine va_get (D := D) (ci := 0) (v := .long w2) (C := RX0) (T := TX0) (N := 4) hx hb hts N0 hown hK hP 1 rfl rfl 1 (by decide) L7 (fun _ h9 => h9) rfl dX0_isWorse_14 ?_
  refine lv_lmul hx hb dX0_isWorse_17 ?_
  refine lv_lsub hx hb dX0_isWorse_18 ?_
  refine lv_lstore_n (lv' := [(2, .long ((w1 * t2) - (t1 * w2))), (0, .ref aF), (1, .ref wF)]) hx hb dX0_isWorse_19 rfl hl (by decide) rfl (fun ls hl => ?_)
  refine lv_lload_n hx hb dX0_isWorse_20 rfl (lv_at hl 0 rfl) ?_
  refine lv_lconst (v := 0) hx hb dX0_isWorse_21 (by decide) ?_
  refine W.lcmp hx hb dX0_isWorse_22 ?_
  refine lv_if_eq (tgt := 38) hx hb dX0_isWorse_23 (by decide) (fun c_1 => ?_) (fun c_1 => ?_)
  · skip
    have c_1 := (lg_cmp_eq _ _).mp c_1
    refine lv_aload_n hx hb dX0_isWorse_38 rfl (lv_at hl 1 rfl) ?_
    refine va_get (D := D) (ci := 0) (v := .long t3) (C := RX0) (T := TX0) (N := 4) hx hb hts N0 hown hK hP 0 rfl rfl 2 (by decide) L19 (fun _ h9 => h9) rfl dX0_isWorse_39 ?_
    refine lv_aload_n hx hb dX0_isWorse_42 rfl (lv_at hl 2 rfl) ?_
    refine va_get (D := D) (ci := 0) (v := .long w4) (C := RX0) (T := TX0) (N := 4) hx hb hts N0 hown hK hP 1 rfl rfl 3 (by decide) L13 (fun _ h9 => h9) rfl dX0_isWorse_43 ?_
    refine lv_lmul hx hb dX0_isWorse_46 ?_
    refine lv_aload_n hx hb dX0_isWorse_47 rfl (lv_at hl 2 rfl) ?_
    refine va_get (D := D) (ci := 0) (v := .long w3) (C := RX0) (T := TX0) (N := 4) hx hb hts N0 hown hK hP 1 rfl rfl 2 (by decide) L19 (fun _ h9 => h9) rfl dX0_isWorse_48 ?_
    refine lv_aload_n hx hb dX0_isWorse_51 rfl (lv_at hl 1 rfl) ?_
    refine va_get (D := D) (ci := 0) (v := .long t4) (C := RX0) (T := TX0) (N := 4) hx hb hts N0 hown hK hP 0 rfl rfl 3 (by decide) L13 (fun _ h9 => h9) rfl dX0_isWorse_52 ?_
    refine lv_lmul hx hb dX0_isWorse_55 ?_
    refine W.lcmp hx hb dX0_isWorse_56 ?_
    refine lv_if_ge (tgt := 64) hx hb dX0_isWorse_57 (by decide) (fun c_2 => ?_) (fun c_2 => ?_)
    · skip
      have c_2 := (lg_cmp_ge _ _).mp c_2
      refine lv_iconst (v := 0) hx hb dX0_isWorse_64 (by decide) ?_
      exact hQ 0 () _ _ _ _ (rfl) (by simp [b2i, cWorse, c_1, c_2]) hP hD hS dX0_isWorse_65
    · skip
      have c_2 := fun h => c_2 ((lg_cmp_ge _ _).mpr h)
      refine lv_iconst (v := 1) hx hb dX0_isWorse_60 (by decide) ?_
      refine lv_goto (tgt := 65) hx hb dX0_isWorse_61 (by decide) ?_
      exact hQ 1 () _ _ _ _ (rfl) (by simp [b2i, cWorse, c_1, c_2]) hP hD hS dX0_isWorse_65
  · skip
    have c_1 := fun h => c_1 ((lg_cmp_eq _ _).mpr h)
    refine lv_lload_n hx hb dX0_isWorse_26 rfl (lv_at hl 0 rfl) ?_
    refine lv_lconst (v := 0) hx hb dX0_isWorse_27 (by decide) ?_
    refine W.lcmp hx hb dX0_isWorse_28 ?_
    refine lv_if_le (tgt := 36) hx hb dX0_isWorse_29 (by decide) (fun c_3 => ?_) (fun c_3 => ?_)
    · skip
      have c_3 := (lg_cmp_le _ _).mp c_3
      refine lv_iconst (v := 0) hx hb dX0_isWorse_36 (by decide) ?_
      exact hQ 0 () _ _ _ _ (rfl) (by simp [b2i, cWorse, c_1, c_3]) hP hD hS dX0_isWorse_37
    · skip
      have c_3 := fun h => c_3 ((lg_cmp_le _ _).mpr h)
      refine lv_iconst (v := 1) hx hb dX0_isWorse_32 (by decide) ?_
      refine lv_goto (tgt := 37) hx hb dX0_isWorse_33 (by decide) ?_
      exact hQ 1 () _ _ _ _ (rfl) (by simp [b2i, cWorse, c_1, c_3]) hP hD hS dX0_isWorse_37

set_option maxHeartbeats 4000000 in
set_option maxRecDepth 100000 in
theorem kX0_sharedDivisor (l : Launch) (D : va_G) (cI cB : ClassId) (tE tN : Nat) (p0 : Int64) (q0 : Int64) (sz : Nat)  : zL l yX0_sharedDivisor wsX0_sharedDivisor ({ frames := 0, cells := 0, slots := 0, locals := 0 }) D cI cB tE tN [.long p0, .long q0] [] sz (fun u : Unit => []) (fun (r : Int64) (u : Unit) => r = sdF 100 p0 q0) 0 0 := by
  refine zL_mk (cc := cX0_sharedDivisor) (maxL := 7) (by decide) rfl (Nat.le_of_ble_eq_true rfl) ?_
  intro p e s m below meth c A Q ls S0 hname hA hK hP hD hT hS hQ hl
  obtain ⟨hx, hb, hml, hown, hts⟩ := id S0
  have hl : lv_has ls 7 [(4, .int 0), (0, .long p0), (2, .long q0)] := hl
  have lp3 : ∀ (k : Nat) (t : Nat) (pa : Int64) (qa : Int64) (H : Heap) (locs : List Loc) (ls : Array Slot), 100 - t = k → (t ≤ 100) → (sdF 100 p0 q0 = sdF (100 - t) pa qa) → va_P D vwCl [] H → va_D A [] → va_S A s.heap H locs → lv_has ls 7 [(4, .int (nI t)), (2, .long qa), (0, .long pa)] → W p l e ({ frames := 0, cells := 0, slots := 0, locals := 0 } : Room) s m ([.long p0, .long q0] : List Value).toArray below meth c H locs 0 0 Q (F0 m 3 ls []) := by
    intro k
    induction k using Nat.strongRecOn with
    | ind k ih =>
    intro t pa qa H locs ls hk ht hinv hP hD hS hl
    refine lv_iload hx hb dX0_sharedDivisor_3 (lv_at hl 0 rfl) ?_
    refine lv_bipush (v := 100) hx hb dX0_sharedDivisor_5 (by decide) ?_
    refine lv_icmp_ge (tgt := 32) hx hb dX0_sharedDivisor_7 (by decide) (fun c_1 => ?_) (fun c_1 => ?_)
    · skip
      have c_1 := (z_le (a := 100) (b := t) rfl rfl (by omega) (by omega)).mp c_1
      refine lv_lload_n hx hb dX0_sharedDivisor_32 rfl (lv_at hl 2 rfl) ?_
      exact hQ pa () _ _ _ _ (by rw [hinv, show 100 - t = 0 by omega]; rfl) hP hD hS dX0_sharedDivisor_33
    · skip
      have c_1 := (z_len (a := 100) (b := t) rfl rfl (by omega) (by omega)).mp c_1
      refine lv_lload_n hx hb dX0_sharedDivisor_10 rfl (lv_at hl 1 rfl) ?_
      refine lv_lconst (v := 0) hx hb dX0_sharedDivisor_11 (by decide) ?_
      refine W.lcmp hx hb dX0_sharedDivisor_12 ?_
      refine lv_if_eq (tgt := 32) hx hb dX0_sharedDivisor_13 (by decide) (fun c_2 => ?_) (fun c_2 => ?_)
      · skip
        have c_2 := (lg_cmp_eq _ _).mp c_2
        refine lv_lload_n hx hb dX0_sharedDivisor_32 rfl (lv_at hl 2 rfl) ?_
        exact hQ pa () _ _ _ _ (by rw [hinv]; exact (sdF_zero c_2).symm) hP hD hS dX0_sharedDivisor_33
      · skip
        have c_2 := fun h => c_2 ((lg_cmp_eq _ _).mpr h)
        refine lv_lload_n hx hb dX0_sharedDivisor_16 rfl (lv_at hl 2 rfl) ?_
        refine lv_lload_n hx hb dX0_sharedDivisor_17 rfl (lv_at hl 1 rfl) ?_
        refine lv_lrem hx hb dX0_sharedDivisor_18 (c_2) ?_
        refine lv_lstore (lv' := [(5, .long (pa - pa / qa * qa)), (4, .int (nI t)), (2, .long qa), (0, .long pa)]) hx hb dX0_sharedDivisor_19 hl (by decide) rfl (fun ls hl => ?_)
        refine lv_lload_n hx hb dX0_sharedDivisor_21 rfl (lv_at hl 2 rfl) ?_
        refine lv_lstore_n (lv' := [(0, .long qa), (5, .long (pa - pa / qa * qa)), (4, .int (nI t)), (2, .long qa)]) hx hb dX0_sharedDivisor_22 rfl hl (by decide) rfl (fun ls hl => ?_)
        refine lv_lload hx hb dX0_sharedDivisor_23 (lv_at hl 1 rfl) ?_
        refine lv_lstore_n (lv' := [(2, .long (pa - pa / qa * qa)), (0, .long qa), (5, .long (pa - pa / qa * qa)), (4, .int (nI t))]) hx hb dX0_sharedDivisor_25 rfl hl (by decide) rfl (fun ls hl => ?_)
        refine lv_iinc (v := nI (t + 1)) (lv' := [(4, .int (nI (t + 1))), (2, .long (pa - pa / qa * qa)), (0, .long qa), (5, .long (pa - pa / qa * qa))]) hx hb dX0_sharedDivisor_26 hl (k := 3) rfl (z_add rfl rfl) (by decide) rfl (fun ls hl => ?_)
        refine lv_goto (tgt := 3) hx hb dX0_sharedDivisor_29 (by decide) ?_
        exact ih _ (by omega) (t + 1) qa (pa - pa / qa * qa) _ _ _ rfl (by omega) (by rw [hinv]; exact sdF_step (by omega) c_2) hP hD hS (lv_sub hl [0, 1, 2] rfl)
  refine lv_iconst (v := 0) hx hb dX0_sharedDivisor_0 (by decide) ?_
  refine lv_istore (lv' := [(4, .int 0), (0, .long p0), (2, .long q0)]) hx hb dX0_sharedDivisor_1 hl (by decide) rfl (fun ls hl => ?_)
  exact lp3 _ 0 p0 q0 _ _ _ rfl (by omega) rfl hP hD hS (lv_sub hl [0, 2, 1] rfl)

set_option maxHeartbeats 4000000 in
set_option maxRecDepth 100000 in
theorem kX0_lowest (l : Launch) (D : va_G) (cI cB : ClassId) (tE tN : Nat) (p0 : Int64) (q0 : Int64) (b : Bool) (sz : Nat)  : zL l yX0_lowest wsX0_lowest ({ frames := 1, cells := 0, slots := 0, locals := 26 }) D cI cB tE tN [.long p0, .long q0, .int (b2i b)] [] sz (fun u : Unit => []) (fun (r : Int64) (u : Unit) => r = cLow p0 q0 b) 0 0 := by
  refine zL_mk (cc := cX0_lowest) (maxL := 7) (by decide) rfl (Nat.le_of_ble_eq_true rfl) ?_
  intro p e s m below meth c A Q ls S0 hname hA hK hP hD hT hS hQ hl
  obtain ⟨hx, hb, hml, hown, hts⟩ := id S0
  have hl : lv_has ls 7 [(5, .long (sdF 100 p0 q0)), (0, .long p0), (2, .long q0), (4, .int (b2i b))] := hl
  refine lv_lload_n hx hb dX0_lowest_0 rfl (lv_at hl 0 rfl) ?_
  refine lv_lload_n hx hb dX0_lowest_1 rfl (lv_at hl 1 rfl) ?_
  refine z_SL (wn := (fun u : Unit => [])) (wr := []) (As := [.long p0, .long q0]) (rest := []) ⟨hx, hb, hml, hown, hts⟩ hK hP hD hS hA hT (kX0_sharedDivisor l D cI cB tE tN p0 q0 H.size ) gX0_lowest_X0_sharedDivisor rfl rfl rfl (by decide +kernel) ⟨Nat.le_of_ble_eq_true rfl, Nat.le_of_ble_eq_true rfl⟩ [] [] [] (by decide) rfl rfl (by decide) (by decide) (by decide) (fun u => rfl) rfl hl.1 rfl (Nat.le_of_ble_eq_true rfl) dX0_lowest_2 ⟨Nat.le_of_ble_eq_true rfl, Nat.le_of_ble_eq_true rfl⟩ (fun r_1 u H locs hw_2 hP hD hS => ?_)
  try dsimp only at hw_2
  have hP : va_P D vwCl [] H := hP
  have hD : va_D A [] := hD
  subst r_1
  refine lv_lstore (lv' := [(5, .long (sdF 100 p0 q0)), (0, .long p0), (2, .long q0), (4, .int (b2i b))]) hx hb dX0_lowest_5 hl (by decide) rfl (fun ls hl => ?_)
  refine lv_lload hx hb dX0_lowest_7 (lv_at hl 0 rfl) ?_
  refine lv_lconst (v := 0) hx hb dX0_lowest_9 (by decide) ?_
  refine W.lcmp hx hb dX0_lowest_10 ?_
  refine lv_if_ne (tgt := 16) hx hb dX0_lowest_11 (by decide) (fun c_3 => ?_) (fun c_3 => ?_)
  · skip
    have c_3 := fun h => c_3 ((lg_cmp_eq _ _).mpr h)
    refine lv_iload hx hb dX0_lowest_16 (lv_at hl 3 rfl) ?_
    refine lv_if_eq (tgt := 25) hx hb dX0_lowest_18 (by decide) (fun c_4 => ?_) (fun c_4 => ?_)
    · skip
      have c_4 := z_b0 c_4
      refine lv_lload_n hx hb dX0_lowest_25 rfl (lv_at hl 2 rfl) ?_
      refine lv_lload hx hb dX0_lowest_26 (lv_at hl 0 rfl) ?_
      refine lv_ldiv hx hb dX0_lowest_28 (c_3) ?_
      exact hQ (q0 / (sdF 100 p0 q0)) () _ _ _ _ (by simp [cLow, c_3, c_4]) hP hD hS dX0_lowest_29
    · skip
      have c_4 := z_b1 c_4
      refine lv_lload_n hx hb dX0_lowest_21 rfl (lv_at hl 1 rfl) ?_
      refine lv_goto (tgt := 26) hx hb dX0_lowest_22 (by decide) ?_
      refine lv_lload hx hb dX0_lowest_26 (lv_at hl 0 rfl) ?_
      refine lv_ldiv hx hb dX0_lowest_28 (c_3) ?_
      exact hQ (p0 / (sdF 100 p0 q0)) () _ _ _ _ (by simp [cLow, c_3, c_4]) hP hD hS dX0_lowest_29
  · skip
    have c_3 := (lg_cmp_eq _ _).mp c_3
    refine lv_lconst (v := 0) hx hb dX0_lowest_14 (by decide) ?_
    exact hQ 0 () _ _ _ _ (by simp [cLow, c_3]) hP hD hS dX0_lowest_15

set_option maxHeartbeats 4000000 in
set_option maxRecDepth 100000 in
theorem kX0_part (l : Launch) (D : va_G) (cI cB : ClassId) (tE tN : Nat) (aF : Nat) (t1 : Int64) (t2 : Int64) (t3 : Int64) (t4 : Int64) (w : Nat) (sz : Nat) (hw : w ≤ 3) : zL l yX0_part wsX0_part ({ frames := 2, cells := 0, slots := 0, locals := 52 }) D cI cB tE tN [.ref aF, .int (nI w)] [(aF, .inr (0, [.long t1, .long t2, .long t3, .long t4]))] sz (fun u : Unit => [(aF, .inr (0, [.long t1, .long t2, .long t3, .long t4]))]) (fun (r : Int64) (u : Unit) => r = cPt t1 t2 t3 t4 w) 0 0 := by
  refine zL_mk (cc := cX0_part) (maxL := 2) (by decide) rfl (Nat.le_of_ble_eq_true rfl) ?_
  intro p e s m below meth c A Q ls S0 hname hA hK hP hD hT hS hQ hl
  obtain ⟨hx, hb, hml, hown, hts⟩ := id S0
  have hl : lv_has ls 2 [(0, .ref aF), (1, .int (nI w))] := hl
  have L19 : (Cond.fieldLink RX0 19 "PastAndClear$Approach" "nearAbove" "J").before ([.ref aF, .int (nI w)] : List Value).toArray s = true := hts (.fieldLink RX0 19 "PastAndClear$Approach" "nearAbove" "J") (by decide +kernel)
  have N0 : ∀ w ∈ u_ws RX0 TX0 4, w ∈ wsX0_part := by decide +kernel
  have L13 : (Cond.fieldLink RX0 13 "PastAndClear$Approach" "nearBelow" "J").before ([.ref aF, .int (nI w)] : List Value).toArray s = true := hts (.fieldLink RX0 13 "PastAndClear$Approach" "nearBelow" "J") (by decide +kernel)
  have L16 : (Cond.fieldLink RX0 16 "PastAndClear$Approach" "timeAbove" "J").before ([.ref aF, .int (nI w)] : List Value).toArray s = true := hts (.fieldLink RX0 16 "PastAndClear$Approach" "timeAbove" "J") (by decide +kernel)
  have L7 : (Cond.fieldLink RX0 7 "PastAndClear$Approach" "timeBelow" "J").before ([.ref aF, .int (nI w)] : List Value).toArray s = true := hts (.fieldLink RX0 7 "PastAndClear$Approach" "timeBelow" "J") (by decide +kernel)
  refine lv_iload_n hx hb dX0_part_0 rfl (lv_at hl 1 rfl) ?_
  refine lv_iconst (v := 2) hx hb dX0_part_1 (by decide) ?_
  refine lv_icmp_ge (tgt := 26) hx hb dX0_part_2 (by decide) (fun c_1 => ?_) (fun c_1 => ?_)
  · skip
    have c_1 := (z_le (a := 2) (b := w) rfl rfl (by omega) (by omega)).mp c_1
    refine lv_aload_n hx hb dX0_part_26 rfl (lv_at hl 0 rfl) ?_
    refine va_get (D := D) (ci := 0) (v := .long t3) (C := RX0) (T := TX0) (N := 4) hx hb hts N0 hown hK hP 0 rfl rfl 2 (by decide) L19 (fun _ h9 => h9) rfl dX0_part_27 ?_
    refine lv_aload_n hx hb dX0_part_30 rfl (lv_at hl 0 rfl) ?_
    refine va_get (D := D) (ci := 0) (v := .long t4) (C := RX0) (T := TX0) (N := 4) hx hb hts N0 hown hK hP 0 rfl rfl 3 (by decide) L13 (fun _ h9 => h9) rfl dX0_part_31 ?_
    refine lv_iload_n hx hb dX0_part_34 rfl (lv_at hl 1 rfl) ?_
    refine lv_iconst (v := 2) hx hb dX0_part_35 (by decide) ?_
    refine lv_icmp_ne (tgt := 43) hx hb dX0_part_36 (by decide) (fun c_2 => ?_) (fun c_2 => ?_)
    · skip
      have c_2 := (z_eqn (a := w) (b := 2) rfl rfl (by omega) (by omega)).mp c_2
      refine lv_iconst (v := 0) hx hb dX0_part_43 (by decide) ?_
      refine z_SL (wn := (fun u : Unit => [(aF, .inr (0, [.long t1, .long t2, .long t3, .long t4]))])) (wr := [(aF, .inr (0, [.long t1, .long t2, .long t3, .long t4]))]) (As := [.long t3, .long t4, .int 0]) (rest := []) ⟨hx, hb, hml, hown, hts⟩ hK hP hD hS hA hT (kX0_lowest l D cI cB tE tN t3 t4 false H.size ) gX0_part_X0_lowest rfl rfl rfl (by decide +kernel) ⟨Nat.le_of_ble_eq_true rfl, Nat.le_of_ble_eq_true rfl⟩ [] [0] [0] (by decide) rfl rfl (by decide) (by decide) (by decide) (fun u => rfl) rfl hl.1 rfl (Nat.le_of_ble_eq_true rfl) dX0_part_44 ⟨Nat.le_of_ble_eq_true rfl, Nat.le_of_ble_eq_true rfl⟩ (fun r_3 u H locs hw_4 hP hD hS => ?_)
      try dsimp only at hw_4
      have hP : va_P D vwCl [(aF, .inr (0, [.long t1, .long t2, .long t3, .long t4]))] H := hP
      have hD : va_D A [(aF, .inr (0, [.long t1, .long t2, .long t3, .long t4]))] := hD
      subst r_3
      exact hQ (cLow t3 t4 false) () _ _ _ _ (by simp [cPt, c_1, c_2]) hP hD hS dX0_part_47
    · skip
      have c_2 := (z_eq (a := w) (b := 2) rfl rfl (by omega) (by omega)).mp c_2
      refine lv_iconst (v := 1) hx hb dX0_part_39 (by decide) ?_
      refine lv_goto (tgt := 44) hx hb dX0_part_40 (by decide) ?_
      refine z_SL (wn := (fun u : Unit => [(aF, .inr (0, [.long t1, .long t2, .long t3, .long t4]))])) (wr := [(aF, .inr (0, [.long t1, .long t2, .long t3, .long t4]))]) (As := [.long t3, .long t4, .int 1]) (rest := []) ⟨hx, hb, hml, hown, hts⟩ hK hP hD hS hA hT (kX0_lowest l D cI cB tE tN t3 t4 true H.size ) gX0_part_X0_lowest rfl rfl rfl (by decide +kernel) ⟨Nat.le_of_ble_eq_true rfl, Nat.le_of_ble_eq_true rfl⟩ [] [0] [0] (by decide) rfl rfl (by decide) (by decide) (by decide) (fun u => rfl) rfl hl.1 rfl (Nat.le_of_ble_eq_true rfl) dX0_part_44 ⟨Nat.le_of_ble_eq_true rfl, Nat.le_of_ble_eq_true rfl⟩ (fun r_5 u H locs hw_6 hP hD hS => ?_)
      try dsimp only at hw_6
      have hP : va_P D vwCl [(aF, .inr (0, [.long t1, .long t2, .long t3, .long t4]))] H := hP
      have hD : va_D A [(aF, .inr (0, [.long t1, .long t2, .long t3, .long t4]))] := hD
      subst r_5
      exact hQ (cLow t3 t4 true) () _ _ _ _ (by simp [cPt, c_1, c_2]) hP hD hS dX0_part_47
  · skip
    have c_1 := (z_len (a := 2) (b := w) rfl rfl (by omega) (by omega)).mp c_1
    refine lv_aload_n hx hb dX0_part_5 rfl (lv_at hl 0 rfl) ?_
    refine va_get (D := D) (ci := 0) (v := .long t1) (C := RX0) (T := TX0) (N := 4) hx hb hts N0 hown hK hP 0 rfl rfl 0 (by decide) L16 (fun _ h9 => h9) rfl dX0_part_6 ?_
    refine lv_aload_n hx hb dX0_part_9 rfl (lv_at hl 0 rfl) ?_
    refine va_get (D := D) (ci := 0) (v := .long t2) (C := RX0) (T := TX0) (N := 4) hx hb hts N0 hown hK hP 0 rfl rfl 1 (by decide) L7 (fun _ h9 => h9) rfl dX0_part_10 ?_
    refine lv_iload_n hx hb dX0_part_13 rfl (lv_at hl 1 rfl) ?_
    refine lv_if_ne (tgt := 21) hx hb dX0_part_14 (by decide) (fun c_7 => ?_) (fun c_7 => ?_)
    · skip
      have c_7 := (z_eqn (a := w) (b := 0) rfl rfl (by omega) (by omega)).mp c_7
      refine lv_iconst (v := 0) hx hb dX0_part_21 (by decide) ?_
      refine z_SL (wn := (fun u : Unit => [(aF, .inr (0, [.long t1, .long t2, .long t3, .long t4]))])) (wr := [(aF, .inr (0, [.long t1, .long t2, .long t3, .long t4]))]) (As := [.long t1, .long t2, .int 0]) (rest := []) ⟨hx, hb, hml, hown, hts⟩ hK hP hD hS hA hT (kX0_lowest l D cI cB tE tN t1 t2 false H.size ) gX0_part_X0_lowest rfl rfl rfl (by decide +kernel) ⟨Nat.le_of_ble_eq_true rfl, Nat.le_of_ble_eq_true rfl⟩ [] [0] [0] (by decide) rfl rfl (by decide) (by decide) (by decide) (fun u => rfl) rfl hl.1 rfl (Nat.le_of_ble_eq_true rfl) dX0_part_22 ⟨Nat.le_of_ble_eq_true rfl, Nat.le_of_ble_eq_true rfl⟩ (fun r_8 u H locs hw_9 hP hD hS => ?_)
      try dsimp only at hw_9
      have hP : va_P D vwCl [(aF, .inr (0, [.long t1, .long t2, .long t3, .long t4]))] H := hP
      have hD : va_D A [(aF, .inr (0, [.long t1, .long t2, .long t3, .long t4]))] := hD
      subst r_8
      exact hQ (cLow t1 t2 false) () _ _ _ _ (by simp [cPt, c_1, c_7]) hP hD hS dX0_part_25
    · skip
      have c_7 := (z_eq (a := w) (b := 0) rfl rfl (by omega) (by omega)).mp c_7
      refine lv_iconst (v := 1) hx hb dX0_part_17 (by decide) ?_
      refine lv_goto (tgt := 22) hx hb dX0_part_18 (by decide) ?_
      refine z_SL (wn := (fun u : Unit => [(aF, .inr (0, [.long t1, .long t2, .long t3, .long t4]))])) (wr := [(aF, .inr (0, [.long t1, .long t2, .long t3, .long t4]))]) (As := [.long t1, .long t2, .int 1]) (rest := []) ⟨hx, hb, hml, hown, hts⟩ hK hP hD hS hA hT (kX0_lowest l D cI cB tE tN t1 t2 true H.size ) gX0_part_X0_lowest rfl rfl rfl (by decide +kernel) ⟨Nat.le_of_ble_eq_true rfl, Nat.le_of_ble_eq_true rfl⟩ [] [0] [0] (by decide) rfl rfl (by decide) (by decide) (by decide) (fun u => rfl) rfl hl.1 rfl (Nat.le_of_ble_eq_true rfl) dX0_part_22 ⟨Nat.le_of_ble_eq_true rfl, Nat.le_of_ble_eq_true rfl⟩ (fun r_10 u H locs hw_11 hP hD hS => ?_)
      try dsimp only at hw_11
      have hP : va_P D vwCl [(aF, .inr (0, [.long t1, .long t2, .long t3, .long t4]))] H := hP
      have hD : va_D A [(aF, .inr (0, [.long t1, .long t2, .long t3, .long t4]))] := hD
      subst r_10
      exact hQ (cLow t1 t2 true) () _ _ _ _ (by simp [cPt, c_1, c_7]) hP hD hS dX0_part_25
end
