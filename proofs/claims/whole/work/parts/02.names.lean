/-! ===== BEGIN words of one list among another's, by their places ===== -/
theorem goodIn_r {big : List Cond} (ws : List Cond) (ps : List Nat) (hp : ws = ps.filterMap (fun i => big[i]?)) (h : ws.all goodWord = true) : GoodIn big ws := by
  intro w hw
  have h1 := List.all_eq_true.mp h w hw
  rw [hp] at hw
  obtain ⟨i, -, hi⟩ := List.mem_filterMap.mp hw
  have hm : w ∈ big := by first | exact List.mem_of_getElem? hi | exact List.getElem?_mem hi
  exact ⟨hm, good_of_word h1⟩
theorem goodIn_app {big a b : List Cond} (ha : GoodIn big a) (hb : GoodIn big b) : GoodIn big (a ++ b) := fun w h => (List.mem_append.mp h).elim (ha w) (hb w)
theorem goodIn_ca {big a b : List Cond} {c : Cond} (ha : GoodIn big (c :: a)) (hb : GoodIn big b) : GoodIn big (c :: (a ++ b)) := fun w h => (List.mem_cons.mp h).elim (fun e => ha w (List.mem_cons.mpr (Or.inl e))) (fun h => (List.mem_append.mp h).elim (fun h => ha w (List.mem_cons.mpr (Or.inr h))) (hb w))
theorem goodIn_sub {big ws : List Cond} (hm : ∀ w ∈ ws, w ∈ big) (h : ws.all goodWord = true) : GoodIn big ws := fun w hw => ⟨hm w hw, good_of_word (List.all_eq_true.mp h w hw)⟩
/-! ===== END ===== -/
def RX0 : String := "CrowdLaws$Backward"
def TX0 : u_T := fun k => match k with
  | 0 => ("CrowdLaws$Backward", "laws", "LCrowdLaws$Laws;", true)
  | 1 => ("CrowdLaws$Backward", "sums", "LCrowdLaws$ByRule;", true)
  | 2 => ("CrowdLaws$Backward", "lack", "LCrowdLaws$Crowd;", true)
  | 3 => ("CrowdLaws$Backward", "maker", "LCrowdLaws$Crowd;", true)
  | 4 => ("CrowdLaws$Backward", "now", "LCrowdLaws$Bases;", false)
  | 5 => ("CrowdLaws$Backward", "next", "LCrowdLaws$Bases;", false)
  | _ => ("CrowdLaws$Backward", "outcome", "I", false)
def tyX0 : Nat → FieldType := fun k => match k with
  | 0 => .object "CrowdLaws$Laws"
  | 1 => .object "CrowdLaws$ByRule"
  | 2 => .object "CrowdLaws$Crowd"
  | 3 => .object "CrowdLaws$Crowd"
  | 4 => .object "CrowdLaws$Bases"
  | 5 => .object "CrowdLaws$Bases"
  | _ => .int
theorem nmX0 : ∀ a, a < 7 → ∀ b, b < 7 → a ≠ b → (TX0 a).2.1 ≠ (TX0 b).2.1 := by decide +kernel
theorem tyX0_ok : ∀ k, k < 7 → parseFieldDescriptor (TX0 k).2.2.1 = some (tyX0 k) := by decide +kernel
abbrev cX0_init : ByteArray := prog_2_method_1_code
def yX0_init : MethodName := ⟨RX0, "<init>", "(LCrowdLaws$Laws;)V"⟩
abbrev cX0_forget : ByteArray := prog_2_method_2_code
def yX0_forget : MethodName := ⟨RX0, "forget", "()V"⟩
abbrev cX0_dooms : ByteArray := prog_2_method_3_code
def yX0_dooms : MethodName := ⟨RX0, "dooms", "(LCrowdLaws$Crowd;)Z"⟩
abbrev cX0_leastFromStart : ByteArray := prog_2_method_4_code
def yX0_leastFromStart : MethodName := ⟨RX0, "leastFromStart", "()I"⟩
abbrev cX0_seek : ByteArray := prog_2_method_5_code
def yX0_seek : MethodName := ⟨RX0, "seek", "()V"⟩
abbrev cX0_takeBadOnes : ByteArray := prog_2_method_6_code
def yX0_takeBadOnes : MethodName := ⟨RX0, "takeBadOnes", "()V"⟩
abbrev cX0_goRound : ByteArray := prog_2_method_7_code
def yX0_goRound : MethodName := ⟨RX0, "goRound", "()V"⟩
abbrev cX0_findSums : ByteArray := prog_2_method_8_code
def yX0_findSums : MethodName := ⟨RX0, "findSums", "()I"⟩
abbrev cX0_keepOld : ByteArray := prog_2_method_9_code
def yX0_keepOld : MethodName := ⟨RX0, "keepOld", "(I)V"⟩
abbrev cX0_bringNew : ByteArray := prog_2_method_10_code
def yX0_bringNew : MethodName := ⟨RX0, "bringNew", "(I)V"⟩
abbrev cX0_setOut : ByteArray := prog_2_method_11_code
def yX0_setOut : MethodName := ⟨RX0, "setOut", "(LCrowdLaws$Rule;LCrowdLaws$Crowd;)V"⟩
abbrev cX0_fillFrom : ByteArray := prog_2_method_12_code
def yX0_fillFrom : MethodName := ⟨RX0, "fillFrom", "(LCrowdLaws$Rule;I)Z"⟩
def RX1 : String := "CrowdLaws$Bases"
def TX1 : u_T := fun k => match k with
  | 0 => ("CrowdLaws$Bases", "rows", "[LCrowdLaws$Crowd;", true)
  | 1 => ("CrowdLaws$Bases", "fresh", "[Z", true)
  | 2 => ("CrowdLaws$Bases", "count", "I", false)
  | _ => ("CrowdLaws$Bases", "freshCount", "I", false)
def tyX1 : Nat → FieldType := fun k => match k with
  | 0 => .array (.object "CrowdLaws$Crowd")
  | 1 => .array .boolean
  | 2 => .int
  | _ => .int
theorem nmX1 : ∀ a, a < 4 → ∀ b, b < 4 → a ≠ b → (TX1 a).2.1 ≠ (TX1 b).2.1 := by decide +kernel
theorem tyX1_ok : ∀ k, k < 4 → parseFieldDescriptor (TX1 k).2.2.1 = some (tyX1 k) := by decide +kernel
abbrev cX1_init : ByteArray := prog_3_method_1_code
def yX1_init : MethodName := ⟨RX1, "<init>", "()V"⟩
abbrev cX1_clear : ByteArray := prog_3_method_2_code
def yX1_clear : MethodName := ⟨RX1, "clear", "()V"⟩
abbrev cX1_areTooMany : ByteArray := prog_3_method_3_code
def yX1_areTooMany : MethodName := ⟨RX1, "areTooMany", "()Z"⟩
abbrev cX1_cover : ByteArray := prog_3_method_4_code
def yX1_cover : MethodName := ⟨RX1, "cover", "(LCrowdLaws$Crowd;)Z"⟩
abbrev cX1_take : ByteArray := prog_3_method_5_code
def yX1_take : MethodName := ⟨RX1, "take", "(LCrowdLaws$Crowd;Z)V"⟩
def RX2 : String := "CrowdLaws$ByRule"
def TX2 : u_T := fun k => match k with
  | _ => ("CrowdLaws$ByRule", "cells", "[I", true)
def tyX2 : Nat → FieldType := fun k => match k with
  | _ => .array .int
theorem nmX2 : ∀ a, a < 1 → ∀ b, b < 1 → a ≠ b → (TX2 a).2.1 ≠ (TX2 b).2.1 := by decide +kernel
theorem tyX2_ok : ∀ k, k < 1 → parseFieldDescriptor (TX2 k).2.2.1 = some (tyX2 k) := by decide +kernel
abbrev cX2_init : ByteArray := prog_4_method_1_code
def yX2_init : MethodName := ⟨RX2, "<init>", "([I)V"⟩
abbrev cX2_of : ByteArray := prog_4_method_2_code
def yX2_of : MethodName := ⟨RX2, "of", "(II)I"⟩
abbrev cX2_set : ByteArray := prog_4_method_3_code
def yX2_set : MethodName := ⟨RX2, "set", "(III)V"⟩
def RX3 : String := "CrowdLaws$Crowd"
def TX3 : u_T := fun k => match k with
  | _ => ("CrowdLaws$Crowd", "in", "[I", true)
def tyX3 : Nat → FieldType := fun k => match k with
  | _ => .array .int
theorem nmX3 : ∀ a, a < 1 → ∀ b, b < 1 → a ≠ b → (TX3 a).2.1 ≠ (TX3 b).2.1 := by decide +kernel
theorem tyX3_ok : ∀ k, k < 1 → parseFieldDescriptor (TX3 k).2.2.1 = some (tyX3 k) := by decide +kernel
abbrev cX3_init : ByteArray := prog_5_method_1_code
def yX3_init : MethodName := ⟨RX3, "<init>", "()V"⟩
abbrev cX3_of : ByteArray := prog_5_method_2_code
def yX3_of : MethodName := ⟨RX3, "of", "(I)I"⟩
abbrev cX3_set : ByteArray := prog_5_method_3_code
def yX3_set : MethodName := ⟨RX3, "set", "(II)V"⟩
abbrev cX3_add : ByteArray := prog_5_method_4_code
def yX3_add : MethodName := ⟨RX3, "add", "(II)V"⟩
abbrev cX3_clear : ByteArray := prog_5_method_5_code
def yX3_clear : MethodName := ⟨RX3, "clear", "()V"⟩
abbrev cX3_copy : ByteArray := prog_5_method_6_code
def yX3_copy : MethodName := ⟨RX3, "copy", "(LCrowdLaws$Crowd;)V"⟩
abbrev cX3_read : ByteArray := prog_5_method_7_code
def yX3_read : MethodName := ⟨RX3, "read", "(I)V"⟩
abbrev cX3_sum : ByteArray := prog_5_method_8_code
def yX3_sum : MethodName := ⟨RX3, "sum", "()I"⟩
abbrev cX3_isAtLeast : ByteArray := prog_5_method_9_code
def yX3_isAtLeast : MethodName := ⟨RX3, "isAtLeast", "(LCrowdLaws$Crowd;)Z"⟩
abbrev cX3_comesBefore : ByteArray := prog_5_method_10_code
def yX3_comesBefore : MethodName := ⟨RX3, "comesBefore", "(LCrowdLaws$Crowd;)Z"⟩
def RX4 : String := "CrowdLaws$Forward"
def TX4 : u_T := fun k => match k with
  | 0 => ("CrowdLaws$Forward", "laws", "LCrowdLaws$Laws;", true)
  | 1 => ("CrowdLaws$Forward", "from", "LCrowdLaws$Crowd;", true)
  | 2 => ("CrowdLaws$Forward", "to", "LCrowdLaws$Crowd;", true)
  | 3 => ("CrowdLaws$Forward", "codes", "[I", true)
  | 4 => ("CrowdLaws$Forward", "levels", "[I", true)
  | 5 => ("CrowdLaws$Forward", "queue", "[I", true)
  | 6 => ("CrowdLaws$Forward", "goals", "LCrowdLaws$ByRule;", true)
  | 7 => ("CrowdLaws$Forward", "leading", "[Z", true)
  | 8 => ("CrowdLaws$Forward", "path", "[I", true)
  | 9 => ("CrowdLaws$Forward", "walked", "I", false)
  | 10 => ("CrowdLaws$Forward", "crowdCount", "I", false)
  | 11 => ("CrowdLaws$Forward", "cameCount", "I", false)
  | _ => ("CrowdLaws$Forward", "fewest", "I", false)
def tyX4 : Nat → FieldType := fun k => match k with
  | 0 => .object "CrowdLaws$Laws"
  | 1 => .object "CrowdLaws$Crowd"
  | 2 => .object "CrowdLaws$Crowd"
  | 3 => .array .int
  | 4 => .array .int
  | 5 => .array .int
  | 6 => .object "CrowdLaws$ByRule"
  | 7 => .array .boolean
  | 8 => .array .int
  | 9 => .int
  | 10 => .int
  | 11 => .int
  | _ => .int
theorem nmX4 : ∀ a, a < 13 → ∀ b, b < 13 → a ≠ b → (TX4 a).2.1 ≠ (TX4 b).2.1 := by decide +kernel
theorem tyX4_ok : ∀ k, k < 13 → parseFieldDescriptor (TX4 k).2.2.1 = some (tyX4 k) := by decide +kernel
abbrev cX4_init : ByteArray := prog_6_method_1_code
def yX4_init : MethodName := ⟨RX4, "<init>", "(LCrowdLaws$Laws;)V"⟩
abbrev cX4_forget : ByteArray := prog_6_method_2_code
def yX4_forget : MethodName := ⟨RX4, "forget", "()V"⟩
abbrev cX4_walk : ByteArray := prog_6_method_3_code
def yX4_walk : MethodName := ⟨RX4, "walk", "(I)V"⟩
abbrev cX4_onPath : ByteArray := prog_6_method_4_code
def yX4_onPath : MethodName := ⟨RX4, "onPath", "(II)I"⟩
abbrev cX4_countDoomed : ByteArray := prog_6_method_5_code
def yX4_countDoomed : MethodName := ⟨RX4, "countDoomed", "(LCrowdLaws$Backward;)I"⟩
abbrev cX4_listCrowds : ByteArray := prog_6_method_6_code
def yX4_listCrowds : MethodName := ⟨RX4, "listCrowds", "(I)V"⟩
abbrev cX4_advance : ByteArray := prog_6_method_7_code
def yX4_advance : MethodName := ⟨RX4, "advance", "()Z"⟩
abbrev cX4_codeOf : ByteArray := prog_6_method_8_code
def yX4_codeOf : MethodName := ⟨RX4, "codeOf", "(LCrowdLaws$Crowd;)I"⟩
abbrev cX4_decode : ByteArray := prog_6_method_9_code
def yX4_decode : MethodName := ⟨RX4, "decode", "(I)V"⟩
abbrev cX4_codeAt : ByteArray := prog_6_method_10_code
def yX4_codeAt : MethodName := ⟨RX4, "codeAt", "(I)I"⟩
abbrev cX4_isPlace : ByteArray := prog_6_method_11_code
def yX4_isPlace : MethodName := ⟨RX4, "isPlace", "(I)Z"⟩
abbrev cX4_placeOf : ByteArray := prog_6_method_12_code
def yX4_placeOf : MethodName := ⟨RX4, "placeOf", "(I)I"⟩
abbrev cX4_beginAtStart : ByteArray := prog_6_method_13_code
def yX4_beginAtStart : MethodName := ⟨RX4, "beginAtStart", "()V"⟩
abbrev cX4_come : ByteArray := prog_6_method_14_code
def yX4_come : MethodName := ⟨RX4, "come", "(II)V"⟩
abbrev cX4_goOn : ByteArray := prog_6_method_15_code
def yX4_goOn : MethodName := ⟨RX4, "goOn", "()V"⟩
abbrev cX4_levelOf : ByteArray := prog_6_method_16_code
def yX4_levelOf : MethodName := ⟨RX4, "levelOf", "(I)I"⟩
abbrev cX4_findFewest : ByteArray := prog_6_method_17_code
def yX4_findFewest : MethodName := ⟨RX4, "findFewest", "()V"⟩
abbrev cX4_markLeading : ByteArray := prog_6_method_18_code
def yX4_markLeading : MethodName := ⟨RX4, "markLeading", "()V"⟩
abbrev cX4_firstLeading : ByteArray := prog_6_method_19_code
def yX4_firstLeading : MethodName := ⟨RX4, "firstLeading", "(I)I"⟩
abbrev cX4_choosePath : ByteArray := prog_6_method_20_code
def yX4_choosePath : MethodName := ⟨RX4, "choosePath", "()V"⟩
def RX5 : String := "CrowdLaws$Laws"
def TX5 : u_T := fun k => match k with
  | 0 => ("CrowdLaws$Laws", "rules", "[LCrowdLaws$Rule;", true)
  | 1 => ("CrowdLaws$Laws", "badOnes", "[LCrowdLaws$Crowd;", true)
  | 2 => ("CrowdLaws$Laws", "spare", "LCrowdLaws$Crowd;", true)
  | 3 => ("CrowdLaws$Laws", "stateCount", "I", false)
  | 4 => ("CrowdLaws$Laws", "startSet", "I", false)
  | 5 => ("CrowdLaws$Laws", "ruleCount", "I", false)
  | _ => ("CrowdLaws$Laws", "badCount", "I", false)
def tyX5 : Nat → FieldType := fun k => match k with
  | 0 => .array (.object "CrowdLaws$Rule")
  | 1 => .array (.object "CrowdLaws$Crowd")
  | 2 => .object "CrowdLaws$Crowd"
  | 3 => .int
  | 4 => .int
  | 5 => .int
  | _ => .int
theorem nmX5 : ∀ a, a < 7 → ∀ b, b < 7 → a ≠ b → (TX5 a).2.1 ≠ (TX5 b).2.1 := by decide +kernel
theorem tyX5_ok : ∀ k, k < 7 → parseFieldDescriptor (TX5 k).2.2.1 = some (tyX5 k) := by decide +kernel
abbrev cX5_init : ByteArray := prog_7_method_1_code
def yX5_init : MethodName := ⟨RX5, "<init>", "()V"⟩
abbrev cX5_begin : ByteArray := prog_7_method_2_code
def yX5_begin : MethodName := ⟨RX5, "begin", "(I)V"⟩
abbrev cX5_isState : ByteArray := prog_7_method_3_code
def yX5_isState : MethodName := ⟨RX5, "isState", "(I)Z"⟩
abbrev cX5_isRule : ByteArray := prog_7_method_4_code
def yX5_isRule : MethodName := ⟨RX5, "isRule", "(I)Z"⟩
abbrev cX5_hasFewDigits : ByteArray := prog_7_method_5_code
def yX5_hasFewDigits : MethodName := ⟨RX5, "hasFewDigits", "(I)Z"⟩
abbrev cX5_isMap : ByteArray := prog_7_method_6_code
def yX5_isMap : MethodName := ⟨RX5, "isMap", "(I)Z"⟩
abbrev cX5_addBad : ByteArray := prog_7_method_7_code
def yX5_addBad : MethodName := ⟨RX5, "addBad", "(I)V"⟩
abbrev cX5_isBadCrowd : ByteArray := prog_7_method_8_code
def yX5_isBadCrowd : MethodName := ⟨RX5, "isBadCrowd", "(LCrowdLaws$Crowd;)Z"⟩
abbrev cX5_isInStart : ByteArray := prog_7_method_9_code
def yX5_isInStart : MethodName := ⟨RX5, "isInStart", "(LCrowdLaws$Crowd;)Z"⟩
abbrev cX5_countFitting : ByteArray := prog_7_method_10_code
def yX5_countFitting : MethodName := ⟨RX5, "countFitting", "(LCrowdLaws$Crowd;)I"⟩
def RX6 : String := "CrowdLaws$Rule"
def TX6 : u_T := fun k => match k with
  | 0 => ("CrowdLaws$Rule", "goals", "[I", true)
  | 1 => ("CrowdLaws$Rule", "kind", "I", false)
  | 2 => ("CrowdLaws$Rule", "p", "I", false)
  | 3 => ("CrowdLaws$Rule", "q", "I", false)
  | 4 => ("CrowdLaws$Rule", "r", "I", false)
  | 5 => ("CrowdLaws$Rule", "t", "I", false)
  | 6 => ("CrowdLaws$Rule", "map", "I", false)
  | _ => ("CrowdLaws$Rule", "needed", "I", false)
def tyX6 : Nat → FieldType := fun k => match k with
  | 0 => .array .int
  | 1 => .int
  | 2 => .int
  | 3 => .int
  | 4 => .int
  | 5 => .int
  | 6 => .int
  | _ => .int
theorem nmX6 : ∀ a, a < 8 → ∀ b, b < 8 → a ≠ b → (TX6 a).2.1 ≠ (TX6 b).2.1 := by decide +kernel
theorem tyX6_ok : ∀ k, k < 8 → parseFieldDescriptor (TX6 k).2.2.1 = some (tyX6 k) := by decide +kernel
abbrev cX6_init : ByteArray := prog_8_method_1_code
def yX6_init : MethodName := ⟨RX6, "<init>", "()V"⟩
abbrev cX6_become : ByteArray := prog_8_method_2_code
def yX6_become : MethodName := ⟨RX6, "become", "(IIIIII)V"⟩
abbrev cX6_setGoals : ByteArray := prog_8_method_3_code
def yX6_setGoals : MethodName := ⟨RX6, "setGoals", "()V"⟩
abbrev cX6_goalOf : ByteArray := prog_8_method_4_code
def yX6_goalOf : MethodName := ⟨RX6, "goalOf", "(I)I"⟩
abbrev cX6_leavers : ByteArray := prog_8_method_5_code
def yX6_leavers : MethodName := ⟨RX6, "leavers", "(I)I"⟩
abbrev cX6_comers : ByteArray := prog_8_method_6_code
def yX6_comers : MethodName := ⟨RX6, "comers", "(I)I"⟩
abbrev cX6_fits : ByteArray := prog_8_method_7_code
def yX6_fits : MethodName := ⟨RX6, "fits", "(LCrowdLaws$Crowd;)Z"⟩
abbrev cX6_lead : ByteArray := prog_8_method_8_code
def yX6_lead : MethodName := ⟨RX6, "lead", "(LCrowdLaws$Crowd;LCrowdLaws$Crowd;)V"⟩
abbrev cX6_findLack : ByteArray := prog_8_method_9_code
def yX6_findLack : MethodName := ⟨RX6, "findLack", "(LCrowdLaws$Crowd;ILCrowdLaws$Crowd;)I"⟩
abbrev cX6_isGoal : ByteArray := prog_8_method_10_code
def yX6_isGoal : MethodName := ⟨RX6, "isGoal", "(II)Z"⟩
abbrev cX6_isLastToGoal : ByteArray := prog_8_method_11_code
def yX6_isLastToGoal : MethodName := ⟨RX6, "isLastToGoal", "(II)Z"⟩
def RX7 : String := "CrowdLaws"
def TX7 : u_T := fun k => match k with
  | 0 => ("CrowdLaws", "laws", "LCrowdLaws$Laws;", true)
  | 1 => ("CrowdLaws", "hand", "LCrowdLaws$Crowd;", true)
  | 2 => ("CrowdLaws", "backward", "LCrowdLaws$Backward;", true)
  | _ => ("CrowdLaws", "forward", "LCrowdLaws$Forward;", true)
def tyX7 : Nat → FieldType := fun k => match k with
  | 0 => .object "CrowdLaws$Laws"
  | 1 => .object "CrowdLaws$Crowd"
  | 2 => .object "CrowdLaws$Backward"
  | _ => .object "CrowdLaws$Forward"
theorem nmX7 : ∀ a, a < 4 → ∀ b, b < 4 → a ≠ b → (TX7 a).2.1 ≠ (TX7 b).2.1 := by decide +kernel
theorem tyX7_ok : ∀ k, k < 4 → parseFieldDescriptor (TX7 k).2.2.1 = some (tyX7 k) := by decide +kernel
abbrev cX7_init : ByteArray := prog_1_method_1_code
def yX7_init : MethodName := ⟨RX7, "<init>", "()V"⟩
abbrev cX7_states : ByteArray := prog_1_method_2_code
def yX7_states : MethodName := ⟨RX7, "states", "(I)I"⟩
abbrev cX7_start : ByteArray := prog_1_method_3_code
def yX7_start : MethodName := ⟨RX7, "start", "(I)I"⟩
abbrev cX7_alone : ByteArray := prog_1_method_4_code
def yX7_alone : MethodName := ⟨RX7, "alone", "(II)I"⟩
abbrev cX7_pair : ByteArray := prog_1_method_5_code
def yX7_pair : MethodName := ⟨RX7, "pair", "(IIII)I"⟩
abbrev cX7_all : ByteArray := prog_1_method_6_code
def yX7_all : MethodName := ⟨RX7, "all", "(III)I"⟩
abbrev cX7_need : ByteArray := prog_1_method_7_code
def yX7_need : MethodName := ⟨RX7, "need", "(II)I"⟩
abbrev cX7_rule : ByteArray := prog_1_method_8_code
def yX7_rule : MethodName := ⟨RX7, "rule", "(II)I"⟩
abbrev cX7_bad : ByteArray := prog_1_method_9_code
def yX7_bad : MethodName := ⟨RX7, "bad", "(I)I"⟩
abbrev cX7_put : ByteArray := prog_1_method_10_code
def yX7_put : MethodName := ⟨RX7, "put", "(II)I"⟩
abbrev cX7_at : ByteArray := prog_1_method_11_code
def yX7_at : MethodName := ⟨RX7, "at", "(I)I"⟩
abbrev cX7_can : ByteArray := prog_1_method_12_code
def yX7_can : MethodName := ⟨RX7, "can", "(I)I"⟩
abbrev cX7_step : ByteArray := prog_1_method_13_code
def yX7_step : MethodName := ⟨RX7, "step", "(I)I"⟩
abbrev cX7_isBad : ByteArray := prog_1_method_14_code
def yX7_isBad : MethodName := ⟨RX7, "isBad", "()I"⟩
abbrev cX7_doomed : ByteArray := prog_1_method_15_code
def yX7_doomed : MethodName := ⟨RX7, "doomed", "()I"⟩
abbrev cX7_search : ByteArray := prog_1_method_16_code
def yX7_search : MethodName := ⟨RX7, "search", "()I"⟩
abbrev cX7_bases : ByteArray := prog_1_method_17_code
def yX7_bases : MethodName := ⟨RX7, "bases", "()I"⟩
abbrev cX7_base : ByteArray := prog_1_method_18_code
def yX7_base : MethodName := ⟨RX7, "base", "(II)I"⟩
abbrev cX7_least : ByteArray := prog_1_method_19_code
def yX7_least : MethodName := ⟨RX7, "least", "()I"⟩
abbrev cX7_reach : ByteArray := prog_1_method_20_code
def yX7_reach : MethodName := ⟨RX7, "reach", "(I)I"⟩
abbrev cX7_steps : ByteArray := prog_1_method_21_code
def yX7_steps : MethodName := ⟨RX7, "steps", "(I)I"⟩
abbrev cX7_run : ByteArray := prog_1_method_22_code
def yX7_run : MethodName := ⟨RX7, "run", "(III)I"⟩
abbrev cX7_doomedOf : ByteArray := prog_1_method_23_code
def yX7_doomedOf : MethodName := ⟨RX7, "doomedOf", "(I)I"⟩
abbrev cX7_total : ByteArray := prog_1_method_24_code
def yX7_total : MethodName := ⟨RX7, "total", "(I)I"⟩
abbrev cX7_isWalkable : ByteArray := prog_1_method_25_code
def yX7_isWalkable : MethodName := ⟨RX7, "isWalkable", "(I)Z"⟩
abbrev cX7_addRule : ByteArray := prog_1_method_26_code
def yX7_addRule : MethodName := ⟨RX7, "addRule", "(IIIIII)I"⟩
abbrev cX7_forgetFindings : ByteArray := prog_1_method_27_code
def yX7_forgetFindings : MethodName := ⟨RX7, "forgetFindings", "()V"⟩
def RX8 : String := "CrowdLawsModel"
def TX8 : u_T := fun k => match k with
  | 0 => ("CrowdLawsModel", "thrown", "I", false)
  | 1 => ("CrowdLawsModel", "states", "I", false)
  | 2 => ("CrowdLawsModel", "start", "I", false)
  | 3 => ("CrowdLawsModel", "rules", "I", false)
  | 4 => ("CrowdLawsModel", "sort", "[I", true)
  | 5 => ("CrowdLawsModel", "p", "[I", true)
  | 6 => ("CrowdLawsModel", "q", "[I", true)
  | 7 => ("CrowdLawsModel", "r", "[I", true)
  | 8 => ("CrowdLawsModel", "t", "[I", true)
  | 9 => ("CrowdLawsModel", "map", "[I", true)
  | 10 => ("CrowdLawsModel", "need", "[I", true)
  | 11 => ("CrowdLawsModel", "bads", "I", false)
  | 12 => ("CrowdLawsModel", "bad", "[I", true)
  | 13 => ("CrowdLawsModel", "hand", "[I", true)
  | 14 => ("CrowdLawsModel", "isSearched", "Z", false)
  | 15 => ("CrowdLawsModel", "isSpent", "Z", false)
  | 16 => ("CrowdLawsModel", "bases", "I", false)
  | 17 => ("CrowdLawsModel", "base", "[I", true)
  | 18 => ("CrowdLawsModel", "news", "I", false)
  | 19 => ("CrowdLawsModel", "next", "[I", true)
  | 20 => ("CrowdLawsModel", "one", "[I", true)
  | 21 => ("CrowdLawsModel", "rest", "[I", true)
  | 22 => ("CrowdLawsModel", "after", "[I", true)
  | 23 => ("CrowdLawsModel", "crowds", "I", false)
  | 24 => ("CrowdLawsModel", "code", "[I", true)
  | 25 => ("CrowdLawsModel", "place", "[I", true)
  | 26 => ("CrowdLawsModel", "far", "[I", true)
  | _ => ("CrowdLawsModel", "comes", "[Z", true)
def tyX8 : Nat → FieldType := fun k => match k with
  | 0 => .int
  | 1 => .int
  | 2 => .int
  | 3 => .int
  | 4 => .array .int
  | 5 => .array .int
  | 6 => .array .int
  | 7 => .array .int
  | 8 => .array .int
  | 9 => .array .int
  | 10 => .array .int
  | 11 => .int
  | 12 => .array .int
  | 13 => .array .int
  | 14 => .boolean
  | 15 => .boolean
  | 16 => .int
  | 17 => .array .int
  | 18 => .int
  | 19 => .array .int
  | 20 => .array .int
  | 21 => .array .int
  | 22 => .array .int
  | 23 => .int
  | 24 => .array .int
  | 25 => .array .int
  | 26 => .array .int
  | _ => .array .boolean
theorem nmX8 : ∀ a, a < 28 → ∀ b, b < 28 → a ≠ b → (TX8 a).2.1 ≠ (TX8 b).2.1 := by decide +kernel
theorem tyX8_ok : ∀ k, k < 28 → parseFieldDescriptor (TX8 k).2.2.1 = some (tyX8 k) := by decide +kernel
abbrev cX8_init : ByteArray := prog_10_method_1_code
def yX8_init : MethodName := ⟨RX8, "<init>", "()V"⟩
abbrev cX8_in : ByteArray := prog_10_method_3_code
def yX8_in : MethodName := ⟨RX8, "in", "(JJJ)Z"⟩
abbrev cX8_noState : ByteArray := prog_10_method_4_code
def yX8_noState : MethodName := ⟨RX8, "noState", "(I)Z"⟩
abbrev cX8_noRule : ByteArray := prog_10_method_5_code
def yX8_noRule : MethodName := ⟨RX8, "noRule", "(I)Z"⟩
abbrev cX8_mapped : ByteArray := prog_10_method_6_code
def yX8_mapped : MethodName := ⟨RX8, "mapped", "(II)I"⟩
abbrev cX8_states : ByteArray := prog_10_method_7_code
def yX8_states : MethodName := ⟨RX8, "states", "(I)I"⟩
abbrev cX8_start : ByteArray := prog_10_method_8_code
def yX8_start : MethodName := ⟨RX8, "start", "(I)I"⟩
abbrev cX8_newRule : ByteArray := prog_10_method_9_code
def yX8_newRule : MethodName := ⟨RX8, "newRule", "(IIIIII)I"⟩
abbrev cX8_alone : ByteArray := prog_10_method_10_code
def yX8_alone : MethodName := ⟨RX8, "alone", "(II)I"⟩
abbrev cX8_pair : ByteArray := prog_10_method_11_code
def yX8_pair : MethodName := ⟨RX8, "pair", "(IIII)I"⟩
abbrev cX8_isShort : ByteArray := prog_10_method_12_code
def yX8_isShort : MethodName := ⟨RX8, "isShort", "(I)Z"⟩
abbrev cX8_all : ByteArray := prog_10_method_13_code
def yX8_all : MethodName := ⟨RX8, "all", "(III)I"⟩
abbrev cX8_need : ByteArray := prog_10_method_14_code
def yX8_need : MethodName := ⟨RX8, "need", "(II)I"⟩
abbrev cX8_rule : ByteArray := prog_10_method_15_code
def yX8_rule : MethodName := ⟨RX8, "rule", "(II)I"⟩
abbrev cX8_bad : ByteArray := prog_10_method_16_code
def yX8_bad : MethodName := ⟨RX8, "bad", "(I)I"⟩
abbrev cX8_leaves : ByteArray := prog_10_method_17_code
def yX8_leaves : MethodName := ⟨RX8, "leaves", "([II)Z"⟩
abbrev cX8_goBy : ByteArray := prog_10_method_18_code
def yX8_goBy : MethodName := ⟨RX8, "goBy", "([II)V"⟩
abbrev cX8_isBadOne : ByteArray := prog_10_method_19_code
def yX8_isBadOne : MethodName := ⟨RX8, "isBadOne", "([I)Z"⟩
abbrev cX8_sum : ByteArray := prog_10_method_20_code
def yX8_sum : MethodName := ⟨RX8, "sum", "([II)I"⟩
abbrev cX8_put : ByteArray := prog_10_method_21_code
def yX8_put : MethodName := ⟨RX8, "put", "(II)I"⟩
abbrev cX8_at : ByteArray := prog_10_method_22_code
def yX8_at : MethodName := ⟨RX8, "at", "(I)I"⟩
abbrev cX8_can : ByteArray := prog_10_method_23_code
def yX8_can : MethodName := ⟨RX8, "can", "(I)I"⟩
abbrev cX8_step : ByteArray := prog_10_method_24_code
def yX8_step : MethodName := ⟨RX8, "step", "(I)I"⟩
abbrev cX8_isBad : ByteArray := prog_10_method_25_code
def yX8_isBad : MethodName := ⟨RX8, "isBad", "()I"⟩
abbrev cX8_isDoomed : ByteArray := prog_10_method_26_code
def yX8_isDoomed : MethodName := ⟨RX8, "isDoomed", "([I)Z"⟩
abbrev cX8_isOver : ByteArray := prog_10_method_27_code
def yX8_isOver : MethodName := ⟨RX8, "isOver", "([I[II)Z"⟩
abbrev cX8_noSearch : ByteArray := prog_10_method_28_code
def yX8_noSearch : MethodName := ⟨RX8, "noSearch", "()I"⟩
abbrev cX8_doomed : ByteArray := prog_10_method_29_code
def yX8_doomed : MethodName := ⟨RX8, "doomed", "()I"⟩
abbrev cX8_take : ByteArray := prog_10_method_30_code
def yX8_take : MethodName := ⟨RX8, "take", "()V"⟩
abbrev cX8_wanted : ByteArray := prog_10_method_31_code
def yX8_wanted : MethodName := ⟨RX8, "wanted", "(III)I"⟩
abbrev cX8_plain : ByteArray := prog_10_method_32_code
def yX8_plain : MethodName := ⟨RX8, "plain", "(III)V"⟩
abbrev cX8_shared : ByteArray := prog_10_method_33_code
def yX8_shared : MethodName := ⟨RX8, "shared", "(III)V"⟩
abbrev cX8_isLast : ByteArray := prog_10_method_34_code
def yX8_isLast : MethodName := ⟨RX8, "isLast", "(II)Z"⟩
abbrev cX8_left : ByteArray := prog_10_method_35_code
def yX8_left : MethodName := ⟨RX8, "left", "(III)I"⟩
abbrev cX8_counted : ByteArray := prog_10_method_36_code
def yX8_counted : MethodName := ⟨RX8, "counted", "(II)Z"⟩
abbrev cX8_round : ByteArray := prog_10_method_37_code
def yX8_round : MethodName := ⟨RX8, "round", "()Z"⟩
abbrev cX8_keep : ByteArray := prog_10_method_38_code
def yX8_keep : MethodName := ⟨RX8, "keep", "()V"⟩
abbrev cX8_isAhead : ByteArray := prog_10_method_39_code
def yX8_isAhead : MethodName := ⟨RX8, "isAhead", "(II)Z"⟩
abbrev cX8_order : ByteArray := prog_10_method_40_code
def yX8_order : MethodName := ⟨RX8, "order", "()V"⟩
abbrev cX8_search : ByteArray := prog_10_method_41_code
def yX8_search : MethodName := ⟨RX8, "search", "()I"⟩
abbrev cX8_bases : ByteArray := prog_10_method_42_code
def yX8_bases : MethodName := ⟨RX8, "bases", "()I"⟩
abbrev cX8_base : ByteArray := prog_10_method_43_code
def yX8_base : MethodName := ⟨RX8, "base", "(II)I"⟩
abbrev cX8_least : ByteArray := prog_10_method_44_code
def yX8_least : MethodName := ⟨RX8, "least", "()I"⟩
abbrev cX8_codeOf : ByteArray := prog_10_method_45_code
def yX8_codeOf : MethodName := ⟨RX8, "codeOf", "([I)I"⟩
abbrev cX8_crowdOf : ByteArray := prog_10_method_46_code
def yX8_crowdOf : MethodName := ⟨RX8, "crowdOf", "(I[I)V"⟩
abbrev cX8_isStart : ByteArray := prog_10_method_47_code
def yX8_isStart : MethodName := ⟨RX8, "isStart", "([I)Z"⟩
abbrev cX8_goThrough : ByteArray := prog_10_method_48_code
def yX8_goThrough : MethodName := ⟨RX8, "goThrough", "(I)V"⟩
abbrev cX8_reach : ByteArray := prog_10_method_49_code
def yX8_reach : MethodName := ⟨RX8, "reach", "(I)I"⟩
abbrev cX8_nearest : ByteArray := prog_10_method_50_code
def yX8_nearest : MethodName := ⟨RX8, "nearest", "()I"⟩
abbrev cX8_steps : ByteArray := prog_10_method_51_code
def yX8_steps : MethodName := ⟨RX8, "steps", "(I)I"⟩
abbrev cX8_run : ByteArray := prog_10_method_52_code
def yX8_run : MethodName := ⟨RX8, "run", "(III)I"⟩
abbrev cX8_doomedOf : ByteArray := prog_10_method_53_code
def yX8_doomedOf : MethodName := ⟨RX8, "doomedOf", "(I)I"⟩
abbrev cX8_total : ByteArray := prog_10_method_54_code
def yX8_total : MethodName := ⟨RX8, "total", "(I)I"⟩
def RL : String := "CrowdLawsLaw"
abbrev cL_law : ByteArray := code
def yL_law : MethodName := ⟨RL, "law", "([I)Z"⟩
abbrev vwCl : List vw_C := [(RX0, TX0, 7), (RX1, TX1, 4), (RX2, TX2, 1), (RX3, TX3, 1), (RX4, TX4, 13), (RX5, TX5, 7), (RX6, TX6, 8), (RX7, TX7, 4), (RX8, TX8, 28)]
theorem kW_X0 : ∀ w ∈ u_ws RX0 TX0 7, w ∈ lw_tbl := by decide +kernel
theorem kW_X1 : ∀ w ∈ u_ws RX1 TX1 4, w ∈ lw_tbl := by decide +kernel
theorem kW_X2 : ∀ w ∈ u_ws RX2 TX2 1, w ∈ lw_tbl := by decide +kernel
theorem kW_X3 : ∀ w ∈ u_ws RX3 TX3 1, w ∈ lw_tbl := by decide +kernel
theorem kW_X4 : ∀ w ∈ u_ws RX4 TX4 13, w ∈ lw_tbl := by decide +kernel
theorem kW_X5 : ∀ w ∈ u_ws RX5 TX5 7, w ∈ lw_tbl := by decide +kernel
theorem kW_X6 : ∀ w ∈ u_ws RX6 TX6 8, w ∈ lw_tbl := by decide +kernel
theorem kW_X7 : ∀ w ∈ u_ws RX7 TX7 4, w ∈ lw_tbl := by decide +kernel
theorem kW_X8 : ∀ w ∈ u_ws RX8 TX8 28, w ∈ lw_tbl := by decide +kernel
theorem kN_L : Cond.initialized "CrowdLawsLaw" ∈ lw_tbl := List.mem_append_right _ (List.mem_of_getElem? (i := 0) (by decide +kernel))
theorem kN_X7 : Cond.initialized RX7 ∈ lw_tbl := List.mem_append_right _ (List.mem_of_getElem? (i := 1) (by decide +kernel))
theorem kN_X5 : Cond.initialized RX5 ∈ lw_tbl := List.mem_append_right _ (List.mem_of_getElem? (i := 2) (by decide +kernel))
theorem kN_X3 : Cond.initialized RX3 ∈ lw_tbl := List.mem_append_right _ (List.mem_of_getElem? (i := 3) (by decide +kernel))
theorem kN_X6 : Cond.initialized RX6 ∈ lw_tbl := List.mem_append_right _ (List.mem_of_getElem? (i := 4) (by decide +kernel))
theorem kN_X0 : Cond.initialized RX0 ∈ lw_tbl := List.mem_append_right _ (List.mem_of_getElem? (i := 5) (by decide +kernel))
theorem kN_X2 : Cond.initialized RX2 ∈ lw_tbl := List.mem_append_right _ (List.mem_of_getElem? (i := 6) (by decide +kernel))
theorem kN_X1 : Cond.initialized RX1 ∈ lw_tbl := List.mem_append_right _ (List.mem_of_getElem? (i := 7) (by decide +kernel))
theorem kN_X4 : Cond.initialized RX4 ∈ lw_tbl := List.mem_append_right _ (List.mem_of_getElem? (i := 8) (by decide +kernel))
theorem kN_X8 : Cond.initialized RX8 ∈ lw_tbl := List.mem_append_right _ (List.mem_of_getElem? (i := 9) (by decide +kernel))
theorem kN_J : Cond.initialized "java/lang/Math" ∈ lw_tbl := List.mem_append_right _ (List.mem_of_getElem? (i := 10) (by decide +kernel))
theorem kL_L_7 : Cond.classLink "CrowdLawsLaw" 7 RX7 ∈ lw_tbl := List.mem_append_right _ (List.mem_of_getElem? (i := 11) (by decide +kernel))
theorem kB_X7 : Cond.instantiable RX7 4 ∈ lw_tbl := List.mem_append_right _ (List.mem_of_getElem? (i := 12) (by decide +kernel))
theorem kM_L_9 : Cond.methodLink "CrowdLawsLaw" 9 yX7_init ∈ lw_tbl := List.mem_append_right _ (List.mem_of_getElem? (i := 13) (by decide +kernel))
theorem kI_yX7_init : Cond.instanceMethod yX7_init ∈ lw_tbl := List.mem_append_right _ (List.mem_of_getElem? (i := 14) (by decide +kernel))
theorem kC_yX7_init : Cond.code yX7_init cX7_init 1 (Option.none : Option Jvm.ClassFile.FieldType) ∈ lw_tbl := List.mem_append_right _ (List.mem_of_getElem? (i := 15) (by decide +kernel))
theorem kM_X7_1 : Cond.methodLink RX7 1 objectInit ∈ lw_tbl := List.mem_append_right _ (List.mem_of_getElem? (i := 16) (by decide +kernel))
theorem kI_objectInit : Cond.instanceMethod objectInit ∈ lw_tbl := List.mem_append_right _ (List.mem_of_getElem? (i := 17) (by decide +kernel))
theorem kC_objectInit : Cond.code objectInit ⟨#[0xb1]⟩ 1 (Option.none : Option Jvm.ClassFile.FieldType) ∈ lw_tbl := List.mem_append_right _ (List.mem_of_getElem? (i := 18) (by decide +kernel))
theorem kL_X7_7 : Cond.classLink RX7 7 RX5 ∈ lw_tbl := List.mem_append_right _ (List.mem_of_getElem? (i := 19) (by decide +kernel))
theorem kB_X5 : Cond.instantiable RX5 7 ∈ lw_tbl := List.mem_append_right _ (List.mem_of_getElem? (i := 20) (by decide +kernel))
theorem kM_X7_9 : Cond.methodLink RX7 9 yX5_init ∈ lw_tbl := List.mem_append_right _ (List.mem_of_getElem? (i := 21) (by decide +kernel))
theorem kI_yX5_init : Cond.instanceMethod yX5_init ∈ lw_tbl := List.mem_append_right _ (List.mem_of_getElem? (i := 22) (by decide +kernel))
theorem kC_yX5_init : Cond.code yX5_init cX5_init 2 (Option.none : Option Jvm.ClassFile.FieldType) ∈ lw_tbl := List.mem_append_right _ (List.mem_of_getElem? (i := 23) (by decide +kernel))
theorem kM_X5_3 : Cond.methodLink RX5 3 objectInit ∈ lw_tbl := List.mem_append_right _ (List.mem_of_getElem? (i := 24) (by decide +kernel))
theorem kL_X5_9 : Cond.classLink RX5 9 RX6 ∈ lw_tbl := List.mem_append_right _ (List.mem_of_getElem? (i := 25) (by decide +kernel))
theorem kA_26 : (Jvm.Cond.arrayOver (Jvm.ClassFile.FieldType.object "CrowdLaws$Rule")) ∈ lw_tbl := List.mem_append_right _ (List.mem_of_getElem? (i := 26) (by decide +kernel))
theorem kL_X5_17 : Cond.classLink RX5 17 RX3 ∈ lw_tbl := List.mem_append_right _ (List.mem_of_getElem? (i := 27) (by decide +kernel))
theorem kA_28 : (Jvm.Cond.arrayOver (Jvm.ClassFile.FieldType.object "CrowdLaws$Crowd")) ∈ lw_tbl := List.mem_append_right _ (List.mem_of_getElem? (i := 28) (by decide +kernel))
theorem kB_X3 : Cond.instantiable RX3 1 ∈ lw_tbl := List.mem_append_right _ (List.mem_of_getElem? (i := 29) (by decide +kernel))
theorem kM_X5_23 : Cond.methodLinkNest RX5 23 yX3_init "CrowdLaws" ∈ lw_tbl := List.mem_append_right _ (List.mem_of_getElem? (i := 30) (by decide +kernel))
theorem kI_yX3_init : Cond.instanceMethod yX3_init ∈ lw_tbl := List.mem_append_right _ (List.mem_of_getElem? (i := 31) (by decide +kernel))
theorem kC_yX3_init : Cond.code yX3_init cX3_init 1 (Option.none : Option Jvm.ClassFile.FieldType) ∈ lw_tbl := List.mem_append_right _ (List.mem_of_getElem? (i := 32) (by decide +kernel))
theorem kM_X3_3 : Cond.methodLink RX3 3 objectInit ∈ lw_tbl := List.mem_append_right _ (List.mem_of_getElem? (i := 33) (by decide +kernel))
theorem kF_X3_9 : Cond.fieldLink RX3 9 "CrowdLaws$Crowd" "in" "[I" ∈ lw_tbl := List.mem_append_right _ (List.mem_of_getElem? (i := 34) (by decide +kernel))
theorem kA_38 : (Jvm.Cond.arrayClass Jvm.ClassFile.FieldType.int) ∈ lw_tbl := List.mem_append_right _ (List.mem_of_getElem? (i := 38) (by decide +kernel))
theorem kB_X6 : Cond.instantiable RX6 8 ∈ lw_tbl := List.mem_append_right _ (List.mem_of_getElem? (i := 39) (by decide +kernel))
theorem kM_X5_41 : Cond.methodLinkNest RX5 41 yX6_init "CrowdLaws" ∈ lw_tbl := List.mem_append_right _ (List.mem_of_getElem? (i := 40) (by decide +kernel))
theorem kI_yX6_init : Cond.instanceMethod yX6_init ∈ lw_tbl := List.mem_append_right _ (List.mem_of_getElem? (i := 41) (by decide +kernel))
theorem kC_yX6_init : Cond.code yX6_init cX6_init 1 (Option.none : Option Jvm.ClassFile.FieldType) ∈ lw_tbl := List.mem_append_right _ (List.mem_of_getElem? (i := 42) (by decide +kernel))
theorem kM_X6_3 : Cond.methodLink RX6 3 objectInit ∈ lw_tbl := List.mem_append_right _ (List.mem_of_getElem? (i := 43) (by decide +kernel))
theorem kF_X6_9 : Cond.fieldLink RX6 9 "CrowdLaws$Rule" "goals" "[I" ∈ lw_tbl := List.mem_append_right _ (List.mem_of_getElem? (i := 44) (by decide +kernel))
theorem kF_X6_15 : Cond.fieldLink RX6 15 "CrowdLaws$Rule" "kind" "I" ∈ lw_tbl := List.mem_append_right _ (List.mem_of_getElem? (i := 45) (by decide +kernel))
theorem kF_X7_82 : Cond.fieldLinkNest RX7 82 "CrowdLaws$Rule" "kind" "I" "CrowdLaws" ∈ lw_tbl := List.mem_append_right _ (List.mem_of_getElem? (i := 46) (by decide +kernel))
theorem kF_X6_19 : Cond.fieldLink RX6 19 "CrowdLaws$Rule" "p" "I" ∈ lw_tbl := List.mem_append_right _ (List.mem_of_getElem? (i := 47) (by decide +kernel))
theorem kF_X7_85 : Cond.fieldLinkNest RX7 85 "CrowdLaws$Rule" "p" "I" "CrowdLaws" ∈ lw_tbl := List.mem_append_right _ (List.mem_of_getElem? (i := 48) (by decide +kernel))
theorem kF_X0_146 : Cond.fieldLinkNest RX0 146 "CrowdLaws$Rule" "p" "I" "CrowdLaws" ∈ lw_tbl := List.mem_append_right _ (List.mem_of_getElem? (i := 49) (by decide +kernel))
theorem kF_X6_22 : Cond.fieldLink RX6 22 "CrowdLaws$Rule" "q" "I" ∈ lw_tbl := List.mem_append_right _ (List.mem_of_getElem? (i := 50) (by decide +kernel))
theorem kF_X7_88 : Cond.fieldLinkNest RX7 88 "CrowdLaws$Rule" "q" "I" "CrowdLaws" ∈ lw_tbl := List.mem_append_right _ (List.mem_of_getElem? (i := 51) (by decide +kernel))
theorem kF_X6_25 : Cond.fieldLink RX6 25 "CrowdLaws$Rule" "r" "I" ∈ lw_tbl := List.mem_append_right _ (List.mem_of_getElem? (i := 52) (by decide +kernel))
theorem kF_X7_91 : Cond.fieldLinkNest RX7 91 "CrowdLaws$Rule" "r" "I" "CrowdLaws" ∈ lw_tbl := List.mem_append_right _ (List.mem_of_getElem? (i := 53) (by decide +kernel))
theorem kF_X0_153 : Cond.fieldLinkNest RX0 153 "CrowdLaws$Rule" "r" "I" "CrowdLaws" ∈ lw_tbl := List.mem_append_right _ (List.mem_of_getElem? (i := 54) (by decide +kernel))
theorem kF_X6_28 : Cond.fieldLink RX6 28 "CrowdLaws$Rule" "t" "I" ∈ lw_tbl := List.mem_append_right _ (List.mem_of_getElem? (i := 55) (by decide +kernel))
theorem kF_X7_94 : Cond.fieldLinkNest RX7 94 "CrowdLaws$Rule" "t" "I" "CrowdLaws" ∈ lw_tbl := List.mem_append_right _ (List.mem_of_getElem? (i := 56) (by decide +kernel))
theorem kF_X6_31 : Cond.fieldLink RX6 31 "CrowdLaws$Rule" "map" "I" ∈ lw_tbl := List.mem_append_right _ (List.mem_of_getElem? (i := 57) (by decide +kernel))
theorem kF_X7_97 : Cond.fieldLinkNest RX7 97 "CrowdLaws$Rule" "map" "I" "CrowdLaws" ∈ lw_tbl := List.mem_append_right _ (List.mem_of_getElem? (i := 58) (by decide +kernel))
theorem kF_X6_34 : Cond.fieldLink RX6 34 "CrowdLaws$Rule" "needed" "I" ∈ lw_tbl := List.mem_append_right _ (List.mem_of_getElem? (i := 59) (by decide +kernel))
theorem kF_X7_77 : Cond.fieldLinkNest RX7 77 "CrowdLaws$Rule" "needed" "I" "CrowdLaws" ∈ lw_tbl := List.mem_append_right _ (List.mem_of_getElem? (i := 60) (by decide +kernel))
theorem kF_X0_156 : Cond.fieldLinkNest RX0 156 "CrowdLaws$Rule" "needed" "I" "CrowdLaws" ∈ lw_tbl := List.mem_append_right _ (List.mem_of_getElem? (i := 61) (by decide +kernel))
theorem kF_X5_11 : Cond.fieldLink RX5 11 "CrowdLaws$Laws" "rules" "[LCrowdLaws$Rule;" ∈ lw_tbl := List.mem_append_right _ (List.mem_of_getElem? (i := 79) (by decide +kernel))
theorem kF_X7_73 : Cond.fieldLinkNest RX7 73 "CrowdLaws$Laws" "rules" "[LCrowdLaws$Rule;" "CrowdLaws" ∈ lw_tbl := List.mem_append_right _ (List.mem_of_getElem? (i := 80) (by decide +kernel))
theorem kF_X0_113 : Cond.fieldLinkNest RX0 113 "CrowdLaws$Laws" "rules" "[LCrowdLaws$Rule;" "CrowdLaws" ∈ lw_tbl := List.mem_append_right _ (List.mem_of_getElem? (i := 81) (by decide +kernel))
theorem kF_X4_138 : Cond.fieldLinkNest RX4 138 "CrowdLaws$Laws" "rules" "[LCrowdLaws$Rule;" "CrowdLaws" ∈ lw_tbl := List.mem_append_right _ (List.mem_of_getElem? (i := 82) (by decide +kernel))
theorem kF_X5_19 : Cond.fieldLink RX5 19 "CrowdLaws$Laws" "badOnes" "[LCrowdLaws$Crowd;" ∈ lw_tbl := List.mem_append_right _ (List.mem_of_getElem? (i := 83) (by decide +kernel))
theorem kF_X0_87 : Cond.fieldLinkNest RX0 87 "CrowdLaws$Laws" "badOnes" "[LCrowdLaws$Crowd;" "CrowdLaws" ∈ lw_tbl := List.mem_append_right _ (List.mem_of_getElem? (i := 84) (by decide +kernel))
theorem kF_X5_24 : Cond.fieldLink RX5 24 "CrowdLaws$Laws" "spare" "LCrowdLaws$Crowd;" ∈ lw_tbl := List.mem_append_right _ (List.mem_of_getElem? (i := 85) (by decide +kernel))
theorem kF_X7_125 : Cond.fieldLinkNest RX7 125 "CrowdLaws$Laws" "spare" "LCrowdLaws$Crowd;" "CrowdLaws" ∈ lw_tbl := List.mem_append_right _ (List.mem_of_getElem? (i := 86) (by decide +kernel))
theorem kF_X5_28 : Cond.fieldLink RX5 28 "CrowdLaws$Laws" "stateCount" "I" ∈ lw_tbl := List.mem_append_right _ (List.mem_of_getElem? (i := 87) (by decide +kernel))
theorem kF_X7_39 : Cond.fieldLinkNest RX7 39 "CrowdLaws$Laws" "stateCount" "I" "CrowdLaws" ∈ lw_tbl := List.mem_append_right _ (List.mem_of_getElem? (i := 88) (by decide +kernel))
theorem kF_X4_102 : Cond.fieldLinkNest RX4 102 "CrowdLaws$Laws" "stateCount" "I" "CrowdLaws" ∈ lw_tbl := List.mem_append_right _ (List.mem_of_getElem? (i := 89) (by decide +kernel))
theorem kF_X0_117 : Cond.fieldLinkNest RX0 117 "CrowdLaws$Laws" "stateCount" "I" "CrowdLaws" ∈ lw_tbl := List.mem_append_right _ (List.mem_of_getElem? (i := 90) (by decide +kernel))
theorem kF_X5_32 : Cond.fieldLink RX5 32 "CrowdLaws$Laws" "startSet" "I" ∈ lw_tbl := List.mem_append_right _ (List.mem_of_getElem? (i := 91) (by decide +kernel))
theorem kF_X7_53 : Cond.fieldLinkNest RX7 53 "CrowdLaws$Laws" "startSet" "I" "CrowdLaws" ∈ lw_tbl := List.mem_append_right _ (List.mem_of_getElem? (i := 92) (by decide +kernel))
theorem kF_X5_35 : Cond.fieldLink RX5 35 "CrowdLaws$Laws" "ruleCount" "I" ∈ lw_tbl := List.mem_append_right _ (List.mem_of_getElem? (i := 93) (by decide +kernel))
theorem kF_X0_110 : Cond.fieldLinkNest RX0 110 "CrowdLaws$Laws" "ruleCount" "I" "CrowdLaws" ∈ lw_tbl := List.mem_append_right _ (List.mem_of_getElem? (i := 94) (by decide +kernel))
theorem kF_X4_135 : Cond.fieldLinkNest RX4 135 "CrowdLaws$Laws" "ruleCount" "I" "CrowdLaws" ∈ lw_tbl := List.mem_append_right _ (List.mem_of_getElem? (i := 95) (by decide +kernel))
theorem kF_X7_188 : Cond.fieldLinkNest RX7 188 "CrowdLaws$Laws" "ruleCount" "I" "CrowdLaws" ∈ lw_tbl := List.mem_append_right _ (List.mem_of_getElem? (i := 96) (by decide +kernel))
theorem kF_X5_38 : Cond.fieldLink RX5 38 "CrowdLaws$Laws" "badCount" "I" ∈ lw_tbl := List.mem_append_right _ (List.mem_of_getElem? (i := 97) (by decide +kernel))
theorem kF_X0_84 : Cond.fieldLinkNest RX0 84 "CrowdLaws$Laws" "badCount" "I" "CrowdLaws" ∈ lw_tbl := List.mem_append_right _ (List.mem_of_getElem? (i := 98) (by decide +kernel))
theorem kF_X7_103 : Cond.fieldLinkNest RX7 103 "CrowdLaws$Laws" "badCount" "I" "CrowdLaws" ∈ lw_tbl := List.mem_append_right _ (List.mem_of_getElem? (i := 99) (by decide +kernel))
theorem kL_X7_16 : Cond.classLink RX7 16 RX3 ∈ lw_tbl := List.mem_append_right _ (List.mem_of_getElem? (i := 115) (by decide +kernel))
theorem kM_X7_18 : Cond.methodLinkNest RX7 18 yX3_init "CrowdLaws" ∈ lw_tbl := List.mem_append_right _ (List.mem_of_getElem? (i := 116) (by decide +kernel))
theorem kL_X7_23 : Cond.classLink RX7 23 RX0 ∈ lw_tbl := List.mem_append_right _ (List.mem_of_getElem? (i := 117) (by decide +kernel))
theorem kB_X0 : Cond.instantiable RX0 7 ∈ lw_tbl := List.mem_append_right _ (List.mem_of_getElem? (i := 118) (by decide +kernel))
theorem kM_X7_25 : Cond.methodLink RX7 25 yX0_init ∈ lw_tbl := List.mem_append_right _ (List.mem_of_getElem? (i := 119) (by decide +kernel))
theorem kI_yX0_init : Cond.instanceMethod yX0_init ∈ lw_tbl := List.mem_append_right _ (List.mem_of_getElem? (i := 120) (by decide +kernel))
theorem kC_yX0_init : Cond.code yX0_init cX0_init 2 (Option.none : Option Jvm.ClassFile.FieldType) ∈ lw_tbl := List.mem_append_right _ (List.mem_of_getElem? (i := 121) (by decide +kernel))
theorem kM_X0_3 : Cond.methodLink RX0 3 objectInit ∈ lw_tbl := List.mem_append_right _ (List.mem_of_getElem? (i := 122) (by decide +kernel))
theorem kL_X0_9 : Cond.classLink RX0 9 RX2 ∈ lw_tbl := List.mem_append_right _ (List.mem_of_getElem? (i := 123) (by decide +kernel))
theorem kB_X2 : Cond.instantiable RX2 1 ∈ lw_tbl := List.mem_append_right _ (List.mem_of_getElem? (i := 124) (by decide +kernel))
theorem kM_X0_11 : Cond.methodLink RX0 11 yX2_init ∈ lw_tbl := List.mem_append_right _ (List.mem_of_getElem? (i := 125) (by decide +kernel))
theorem kI_yX2_init : Cond.instanceMethod yX2_init ∈ lw_tbl := List.mem_append_right _ (List.mem_of_getElem? (i := 126) (by decide +kernel))
theorem kC_yX2_init : Cond.code yX2_init cX2_init 2 (Option.none : Option Jvm.ClassFile.FieldType) ∈ lw_tbl := List.mem_append_right _ (List.mem_of_getElem? (i := 127) (by decide +kernel))
theorem kM_X2_3 : Cond.methodLink RX2 3 objectInit ∈ lw_tbl := List.mem_append_right _ (List.mem_of_getElem? (i := 128) (by decide +kernel))
theorem kF_X2_9 : Cond.fieldLink RX2 9 "CrowdLaws$ByRule" "cells" "[I" ∈ lw_tbl := List.mem_append_right _ (List.mem_of_getElem? (i := 129) (by decide +kernel))
theorem kL_X0_20 : Cond.classLink RX0 20 RX3 ∈ lw_tbl := List.mem_append_right _ (List.mem_of_getElem? (i := 133) (by decide +kernel))
theorem kM_X0_22 : Cond.methodLinkNest RX0 22 yX3_init "CrowdLaws" ∈ lw_tbl := List.mem_append_right _ (List.mem_of_getElem? (i := 134) (by decide +kernel))
theorem kL_X0_30 : Cond.classLink RX0 30 RX1 ∈ lw_tbl := List.mem_append_right _ (List.mem_of_getElem? (i := 135) (by decide +kernel))
theorem kB_X1 : Cond.instantiable RX1 4 ∈ lw_tbl := List.mem_append_right _ (List.mem_of_getElem? (i := 136) (by decide +kernel))
theorem kM_X0_32 : Cond.methodLink RX0 32 yX1_init ∈ lw_tbl := List.mem_append_right _ (List.mem_of_getElem? (i := 137) (by decide +kernel))
theorem kI_yX1_init : Cond.instanceMethod yX1_init ∈ lw_tbl := List.mem_append_right _ (List.mem_of_getElem? (i := 138) (by decide +kernel))
theorem kC_yX1_init : Cond.code yX1_init cX1_init 2 (Option.none : Option Jvm.ClassFile.FieldType) ∈ lw_tbl := List.mem_append_right _ (List.mem_of_getElem? (i := 139) (by decide +kernel))
theorem kM_X1_3 : Cond.methodLink RX1 3 objectInit ∈ lw_tbl := List.mem_append_right _ (List.mem_of_getElem? (i := 140) (by decide +kernel))
theorem kL_X1_9 : Cond.classLink RX1 9 RX3 ∈ lw_tbl := List.mem_append_right _ (List.mem_of_getElem? (i := 141) (by decide +kernel))
theorem kM_X1_28 : Cond.methodLinkNest RX1 28 yX3_init "CrowdLaws" ∈ lw_tbl := List.mem_append_right _ (List.mem_of_getElem? (i := 142) (by decide +kernel))
theorem kF_X1_11 : Cond.fieldLink RX1 11 "CrowdLaws$Bases" "rows" "[LCrowdLaws$Crowd;" ∈ lw_tbl := List.mem_append_right _ (List.mem_of_getElem? (i := 143) (by decide +kernel))
theorem kF_X0_55 : Cond.fieldLinkNest RX0 55 "CrowdLaws$Bases" "rows" "[LCrowdLaws$Crowd;" "CrowdLaws" ∈ lw_tbl := List.mem_append_right _ (List.mem_of_getElem? (i := 144) (by decide +kernel))
theorem kF_X7_161 : Cond.fieldLinkNest RX7 161 "CrowdLaws$Bases" "rows" "[LCrowdLaws$Crowd;" "CrowdLaws" ∈ lw_tbl := List.mem_append_right _ (List.mem_of_getElem? (i := 145) (by decide +kernel))
theorem kF_X1_17 : Cond.fieldLink RX1 17 "CrowdLaws$Bases" "fresh" "[Z" ∈ lw_tbl := List.mem_append_right _ (List.mem_of_getElem? (i := 146) (by decide +kernel))
theorem kF_X0_130 : Cond.fieldLinkNest RX0 130 "CrowdLaws$Bases" "fresh" "[Z" "CrowdLaws" ∈ lw_tbl := List.mem_append_right _ (List.mem_of_getElem? (i := 147) (by decide +kernel))
theorem kF_X1_21 : Cond.fieldLink RX1 21 "CrowdLaws$Bases" "count" "I" ∈ lw_tbl := List.mem_append_right _ (List.mem_of_getElem? (i := 148) (by decide +kernel))
theorem kF_X0_52 : Cond.fieldLinkNest RX0 52 "CrowdLaws$Bases" "count" "I" "CrowdLaws" ∈ lw_tbl := List.mem_append_right _ (List.mem_of_getElem? (i := 149) (by decide +kernel))
theorem kF_X7_156 : Cond.fieldLinkNest RX7 156 "CrowdLaws$Bases" "count" "I" "CrowdLaws" ∈ lw_tbl := List.mem_append_right _ (List.mem_of_getElem? (i := 150) (by decide +kernel))
theorem kF_X1_25 : Cond.fieldLink RX1 25 "CrowdLaws$Bases" "freshCount" "I" ∈ lw_tbl := List.mem_append_right _ (List.mem_of_getElem? (i := 151) (by decide +kernel))
theorem kF_X0_74 : Cond.fieldLinkNest RX0 74 "CrowdLaws$Bases" "freshCount" "I" "CrowdLaws" ∈ lw_tbl := List.mem_append_right _ (List.mem_of_getElem? (i := 152) (by decide +kernel))
theorem kA_162 : (Jvm.Cond.arrayClass Jvm.ClassFile.FieldType.boolean) ∈ lw_tbl := List.mem_append_right _ (List.mem_of_getElem? (i := 162) (by decide +kernel))
theorem kF_X0_44 : Cond.fieldLink RX0 44 "CrowdLaws$Backward" "laws" "LCrowdLaws$Laws;" ∈ lw_tbl := List.mem_append_right _ (List.mem_of_getElem? (i := 163) (by decide +kernel))
theorem kF_X0_14 : Cond.fieldLink RX0 14 "CrowdLaws$Backward" "sums" "LCrowdLaws$ByRule;" ∈ lw_tbl := List.mem_append_right _ (List.mem_of_getElem? (i := 164) (by decide +kernel))
theorem kF_X0_23 : Cond.fieldLink RX0 23 "CrowdLaws$Backward" "lack" "LCrowdLaws$Crowd;" ∈ lw_tbl := List.mem_append_right _ (List.mem_of_getElem? (i := 165) (by decide +kernel))
theorem kF_X0_27 : Cond.fieldLink RX0 27 "CrowdLaws$Backward" "maker" "LCrowdLaws$Crowd;" ∈ lw_tbl := List.mem_append_right _ (List.mem_of_getElem? (i := 166) (by decide +kernel))
theorem kF_X0_33 : Cond.fieldLink RX0 33 "CrowdLaws$Backward" "now" "LCrowdLaws$Bases;" ∈ lw_tbl := List.mem_append_right _ (List.mem_of_getElem? (i := 167) (by decide +kernel))
theorem kF_X7_152 : Cond.fieldLinkNest RX7 152 "CrowdLaws$Backward" "now" "LCrowdLaws$Bases;" "CrowdLaws" ∈ lw_tbl := List.mem_append_right _ (List.mem_of_getElem? (i := 168) (by decide +kernel))
theorem kF_X0_37 : Cond.fieldLink RX0 37 "CrowdLaws$Backward" "next" "LCrowdLaws$Bases;" ∈ lw_tbl := List.mem_append_right _ (List.mem_of_getElem? (i := 169) (by decide +kernel))
theorem kF_X0_40 : Cond.fieldLink RX0 40 "CrowdLaws$Backward" "outcome" "I" ∈ lw_tbl := List.mem_append_right _ (List.mem_of_getElem? (i := 170) (by decide +kernel))
theorem kF_X7_143 : Cond.fieldLinkNest RX7 143 "CrowdLaws$Backward" "outcome" "I" "CrowdLaws" ∈ lw_tbl := List.mem_append_right _ (List.mem_of_getElem? (i := 171) (by decide +kernel))
theorem kL_X7_32 : Cond.classLink RX7 32 RX4 ∈ lw_tbl := List.mem_append_right _ (List.mem_of_getElem? (i := 187) (by decide +kernel))
theorem kB_X4 : Cond.instantiable RX4 13 ∈ lw_tbl := List.mem_append_right _ (List.mem_of_getElem? (i := 188) (by decide +kernel))
theorem kM_X7_34 : Cond.methodLink RX7 34 yX4_init ∈ lw_tbl := List.mem_append_right _ (List.mem_of_getElem? (i := 189) (by decide +kernel))
theorem kI_yX4_init : Cond.instanceMethod yX4_init ∈ lw_tbl := List.mem_append_right _ (List.mem_of_getElem? (i := 190) (by decide +kernel))
theorem kC_yX4_init : Cond.code yX4_init cX4_init 2 (Option.none : Option Jvm.ClassFile.FieldType) ∈ lw_tbl := List.mem_append_right _ (List.mem_of_getElem? (i := 191) (by decide +kernel))
theorem kM_X4_3 : Cond.methodLink RX4 3 objectInit ∈ lw_tbl := List.mem_append_right _ (List.mem_of_getElem? (i := 192) (by decide +kernel))
theorem kL_X4_9 : Cond.classLink RX4 9 RX3 ∈ lw_tbl := List.mem_append_right _ (List.mem_of_getElem? (i := 193) (by decide +kernel))
theorem kM_X4_11 : Cond.methodLinkNest RX4 11 yX3_init "CrowdLaws" ∈ lw_tbl := List.mem_append_right _ (List.mem_of_getElem? (i := 194) (by decide +kernel))
theorem kL_X4_31 : Cond.classLink RX4 31 RX2 ∈ lw_tbl := List.mem_append_right _ (List.mem_of_getElem? (i := 195) (by decide +kernel))
theorem kM_X4_33 : Cond.methodLink RX4 33 yX2_init ∈ lw_tbl := List.mem_append_right _ (List.mem_of_getElem? (i := 196) (by decide +kernel))
theorem kF_X4_60 : Cond.fieldLink RX4 60 "CrowdLaws$Forward" "laws" "LCrowdLaws$Laws;" ∈ lw_tbl := List.mem_append_right _ (List.mem_of_getElem? (i := 197) (by decide +kernel))
theorem kF_X4_12 : Cond.fieldLink RX4 12 "CrowdLaws$Forward" "from" "LCrowdLaws$Crowd;" ∈ lw_tbl := List.mem_append_right _ (List.mem_of_getElem? (i := 198) (by decide +kernel))
theorem kF_X4_18 : Cond.fieldLink RX4 18 "CrowdLaws$Forward" "to" "LCrowdLaws$Crowd;" ∈ lw_tbl := List.mem_append_right _ (List.mem_of_getElem? (i := 199) (by decide +kernel))
theorem kF_X4_21 : Cond.fieldLink RX4 21 "CrowdLaws$Forward" "codes" "[I" ∈ lw_tbl := List.mem_append_right _ (List.mem_of_getElem? (i := 200) (by decide +kernel))
theorem kF_X4_25 : Cond.fieldLink RX4 25 "CrowdLaws$Forward" "levels" "[I" ∈ lw_tbl := List.mem_append_right _ (List.mem_of_getElem? (i := 201) (by decide +kernel))
theorem kF_X4_28 : Cond.fieldLink RX4 28 "CrowdLaws$Forward" "queue" "[I" ∈ lw_tbl := List.mem_append_right _ (List.mem_of_getElem? (i := 202) (by decide +kernel))
theorem kF_X4_36 : Cond.fieldLink RX4 36 "CrowdLaws$Forward" "goals" "LCrowdLaws$ByRule;" ∈ lw_tbl := List.mem_append_right _ (List.mem_of_getElem? (i := 203) (by decide +kernel))
theorem kF_X4_40 : Cond.fieldLink RX4 40 "CrowdLaws$Forward" "leading" "[Z" ∈ lw_tbl := List.mem_append_right _ (List.mem_of_getElem? (i := 204) (by decide +kernel))
theorem kF_X4_44 : Cond.fieldLink RX4 44 "CrowdLaws$Forward" "path" "[I" ∈ lw_tbl := List.mem_append_right _ (List.mem_of_getElem? (i := 205) (by decide +kernel))
theorem kF_X4_47 : Cond.fieldLink RX4 47 "CrowdLaws$Forward" "walked" "I" ∈ lw_tbl := List.mem_append_right _ (List.mem_of_getElem? (i := 206) (by decide +kernel))
theorem kF_X4_51 : Cond.fieldLink RX4 51 "CrowdLaws$Forward" "crowdCount" "I" ∈ lw_tbl := List.mem_append_right _ (List.mem_of_getElem? (i := 207) (by decide +kernel))
theorem kF_X4_54 : Cond.fieldLink RX4 54 "CrowdLaws$Forward" "cameCount" "I" ∈ lw_tbl := List.mem_append_right _ (List.mem_of_getElem? (i := 208) (by decide +kernel))
theorem kF_X7_174 : Cond.fieldLinkNest RX7 174 "CrowdLaws$Forward" "cameCount" "I" "CrowdLaws" ∈ lw_tbl := List.mem_append_right _ (List.mem_of_getElem? (i := 209) (by decide +kernel))
theorem kF_X4_57 : Cond.fieldLink RX4 57 "CrowdLaws$Forward" "fewest" "I" ∈ lw_tbl := List.mem_append_right _ (List.mem_of_getElem? (i := 210) (by decide +kernel))
theorem kF_X7_177 : Cond.fieldLinkNest RX7 177 "CrowdLaws$Forward" "fewest" "I" "CrowdLaws" ∈ lw_tbl := List.mem_append_right _ (List.mem_of_getElem? (i := 211) (by decide +kernel))
theorem kF_X7_10 : Cond.fieldLink RX7 10 "CrowdLaws" "laws" "LCrowdLaws$Laws;" ∈ lw_tbl := List.mem_append_right _ (List.mem_of_getElem? (i := 239) (by decide +kernel))
theorem kF_X7_19 : Cond.fieldLink RX7 19 "CrowdLaws" "hand" "LCrowdLaws$Crowd;" ∈ lw_tbl := List.mem_append_right _ (List.mem_of_getElem? (i := 240) (by decide +kernel))
theorem kF_X7_28 : Cond.fieldLink RX7 28 "CrowdLaws" "backward" "LCrowdLaws$Backward;" ∈ lw_tbl := List.mem_append_right _ (List.mem_of_getElem? (i := 241) (by decide +kernel))
theorem kF_X7_35 : Cond.fieldLink RX7 35 "CrowdLaws" "forward" "LCrowdLaws$Forward;" ∈ lw_tbl := List.mem_append_right _ (List.mem_of_getElem? (i := 242) (by decide +kernel))
theorem kM_L_13 : Cond.methodLink "CrowdLawsLaw" 13 yX7_states ∈ lw_tbl := List.mem_append_right _ (List.mem_of_getElem? (i := 252) (by decide +kernel))
theorem kI_yX7_states : Cond.instanceMethod yX7_states ∈ lw_tbl := List.mem_append_right _ (List.mem_of_getElem? (i := 253) (by decide +kernel))
theorem kS_yX7_states : Cond.selects RX7 yX7_states yX7_states ∈ lw_tbl := List.mem_append_right _ (List.mem_of_getElem? (i := 254) (by decide +kernel))
theorem kC_yX7_states : Cond.code yX7_states cX7_states 3 (Option.some Jvm.ClassFile.FieldType.int) ∈ lw_tbl := List.mem_append_right _ (List.mem_of_getElem? (i := 255) (by decide +kernel))
theorem kM_X7_43 : Cond.methodLink RX7 43 yX5_begin ∈ lw_tbl := List.mem_append_right _ (List.mem_of_getElem? (i := 256) (by decide +kernel))
theorem kI_yX5_begin : Cond.instanceMethod yX5_begin ∈ lw_tbl := List.mem_append_right _ (List.mem_of_getElem? (i := 257) (by decide +kernel))
theorem kS_yX5_begin : Cond.selects RX5 yX5_begin yX5_begin ∈ lw_tbl := List.mem_append_right _ (List.mem_of_getElem? (i := 258) (by decide +kernel))
theorem kC_yX5_begin : Cond.code yX5_begin cX5_begin 2 (Option.none : Option Jvm.ClassFile.FieldType) ∈ lw_tbl := List.mem_append_right _ (List.mem_of_getElem? (i := 259) (by decide +kernel))
theorem kM_X7_47 : Cond.methodLink RX7 47 yX3_clear ∈ lw_tbl := List.mem_append_right _ (List.mem_of_getElem? (i := 260) (by decide +kernel))
theorem kI_yX3_clear : Cond.instanceMethod yX3_clear ∈ lw_tbl := List.mem_append_right _ (List.mem_of_getElem? (i := 261) (by decide +kernel))
theorem kS_yX3_clear : Cond.selects RX3 yX3_clear yX3_clear ∈ lw_tbl := List.mem_append_right _ (List.mem_of_getElem? (i := 262) (by decide +kernel))
theorem kC_yX3_clear : Cond.code yX3_clear cX3_clear 2 (Option.none : Option Jvm.ClassFile.FieldType) ∈ lw_tbl := List.mem_append_right _ (List.mem_of_getElem? (i := 263) (by decide +kernel))
theorem kM_X7_50 : Cond.methodLink RX7 50 yX7_forgetFindings ∈ lw_tbl := List.mem_append_right _ (List.mem_of_getElem? (i := 264) (by decide +kernel))
theorem kI_yX7_forgetFindings : Cond.instanceMethod yX7_forgetFindings ∈ lw_tbl := List.mem_append_right _ (List.mem_of_getElem? (i := 266) (by decide +kernel))
theorem kC_yX7_forgetFindings : Cond.code yX7_forgetFindings cX7_forgetFindings 1 (Option.none : Option Jvm.ClassFile.FieldType) ∈ lw_tbl := List.mem_append_right _ (List.mem_of_getElem? (i := 267) (by decide +kernel))
theorem kM_X7_195 : Cond.methodLink RX7 195 yX0_forget ∈ lw_tbl := List.mem_append_right _ (List.mem_of_getElem? (i := 268) (by decide +kernel))
theorem kI_yX0_forget : Cond.instanceMethod yX0_forget ∈ lw_tbl := List.mem_append_right _ (List.mem_of_getElem? (i := 269) (by decide +kernel))
theorem kS_yX0_forget : Cond.selects RX0 yX0_forget yX0_forget ∈ lw_tbl := List.mem_append_right _ (List.mem_of_getElem? (i := 270) (by decide +kernel))
theorem kC_yX0_forget : Cond.code yX0_forget cX0_forget 1 (Option.none : Option Jvm.ClassFile.FieldType) ∈ lw_tbl := List.mem_append_right _ (List.mem_of_getElem? (i := 271) (by decide +kernel))
theorem kM_X7_56 : Cond.methodLink RX7 56 yX4_forget ∈ lw_tbl := List.mem_append_right _ (List.mem_of_getElem? (i := 272) (by decide +kernel))
theorem kI_yX4_forget : Cond.instanceMethod yX4_forget ∈ lw_tbl := List.mem_append_right _ (List.mem_of_getElem? (i := 273) (by decide +kernel))
theorem kS_yX4_forget : Cond.selects RX4 yX4_forget yX4_forget ∈ lw_tbl := List.mem_append_right _ (List.mem_of_getElem? (i := 274) (by decide +kernel))
theorem kC_yX4_forget : Cond.code yX4_forget cX4_forget 1 (Option.none : Option Jvm.ClassFile.FieldType) ∈ lw_tbl := List.mem_append_right _ (List.mem_of_getElem? (i := 275) (by decide +kernel))
theorem kM_L_18 : Cond.methodLink "CrowdLawsLaw" 18 yX7_start ∈ lw_tbl := List.mem_append_right _ (List.mem_of_getElem? (i := 276) (by decide +kernel))
theorem kI_yX7_start : Cond.instanceMethod yX7_start ∈ lw_tbl := List.mem_append_right _ (List.mem_of_getElem? (i := 277) (by decide +kernel))
theorem kS_yX7_start : Cond.selects RX7 yX7_start yX7_start ∈ lw_tbl := List.mem_append_right _ (List.mem_of_getElem? (i := 278) (by decide +kernel))
theorem kC_yX7_start : Cond.code yX7_start cX7_start 3 (Option.some Jvm.ClassFile.FieldType.int) ∈ lw_tbl := List.mem_append_right _ (List.mem_of_getElem? (i := 279) (by decide +kernel))
theorem kM_L_22 : Cond.methodLink "CrowdLawsLaw" 22 yX7_alone ∈ lw_tbl := List.mem_append_right _ (List.mem_of_getElem? (i := 280) (by decide +kernel))
theorem kI_yX7_alone : Cond.instanceMethod yX7_alone ∈ lw_tbl := List.mem_append_right _ (List.mem_of_getElem? (i := 281) (by decide +kernel))
theorem kS_yX7_alone : Cond.selects RX7 yX7_alone yX7_alone ∈ lw_tbl := List.mem_append_right _ (List.mem_of_getElem? (i := 282) (by decide +kernel))
theorem kC_yX7_alone : Cond.code yX7_alone cX7_alone 3 (Option.some Jvm.ClassFile.FieldType.int) ∈ lw_tbl := List.mem_append_right _ (List.mem_of_getElem? (i := 283) (by decide +kernel))
theorem kM_X7_59 : Cond.methodLink RX7 59 yX5_isState ∈ lw_tbl := List.mem_append_right _ (List.mem_of_getElem? (i := 284) (by decide +kernel))
theorem kI_yX5_isState : Cond.instanceMethod yX5_isState ∈ lw_tbl := List.mem_append_right _ (List.mem_of_getElem? (i := 285) (by decide +kernel))
theorem kS_yX5_isState : Cond.selects RX5 yX5_isState yX5_isState ∈ lw_tbl := List.mem_append_right _ (List.mem_of_getElem? (i := 286) (by decide +kernel))
theorem kC_yX5_isState : Cond.code yX5_isState cX5_isState 2 (Option.some Jvm.ClassFile.FieldType.boolean) ∈ lw_tbl := List.mem_append_right _ (List.mem_of_getElem? (i := 287) (by decide +kernel))
theorem kM_X7_63 : Cond.methodLink RX7 63 yX7_addRule ∈ lw_tbl := List.mem_append_right _ (List.mem_of_getElem? (i := 288) (by decide +kernel))
theorem kI_yX7_addRule : Cond.instanceMethod yX7_addRule ∈ lw_tbl := List.mem_append_right _ (List.mem_of_getElem? (i := 290) (by decide +kernel))
theorem kC_yX7_addRule : Cond.code yX7_addRule cX7_addRule 7 (Option.some Jvm.ClassFile.FieldType.int) ∈ lw_tbl := List.mem_append_right _ (List.mem_of_getElem? (i := 291) (by decide +kernel))
theorem kM_X7_191 : Cond.methodLink RX7 191 yX6_become ∈ lw_tbl := List.mem_append_right _ (List.mem_of_getElem? (i := 292) (by decide +kernel))
theorem kI_yX6_become : Cond.instanceMethod yX6_become ∈ lw_tbl := List.mem_append_right _ (List.mem_of_getElem? (i := 293) (by decide +kernel))
theorem kS_yX6_become : Cond.selects RX6 yX6_become yX6_become ∈ lw_tbl := List.mem_append_right _ (List.mem_of_getElem? (i := 294) (by decide +kernel))
theorem kC_yX6_become : Cond.code yX6_become cX6_become 7 (Option.none : Option Jvm.ClassFile.FieldType) ∈ lw_tbl := List.mem_append_right _ (List.mem_of_getElem? (i := 295) (by decide +kernel))
theorem kM_X6_37 : Cond.methodLink RX6 37 yX6_setGoals ∈ lw_tbl := List.mem_append_right _ (List.mem_of_getElem? (i := 296) (by decide +kernel))
theorem kI_yX6_setGoals : Cond.instanceMethod yX6_setGoals ∈ lw_tbl := List.mem_append_right _ (List.mem_of_getElem? (i := 298) (by decide +kernel))
theorem kC_yX6_setGoals : Cond.code yX6_setGoals cX6_setGoals 3 (Option.none : Option Jvm.ClassFile.FieldType) ∈ lw_tbl := List.mem_append_right _ (List.mem_of_getElem? (i := 299) (by decide +kernel))
theorem kM_L_27 : Cond.methodLink "CrowdLawsLaw" 27 yX7_pair ∈ lw_tbl := List.mem_append_right _ (List.mem_of_getElem? (i := 300) (by decide +kernel))
theorem kI_yX7_pair : Cond.instanceMethod yX7_pair ∈ lw_tbl := List.mem_append_right _ (List.mem_of_getElem? (i := 301) (by decide +kernel))
theorem kS_yX7_pair : Cond.selects RX7 yX7_pair yX7_pair ∈ lw_tbl := List.mem_append_right _ (List.mem_of_getElem? (i := 302) (by decide +kernel))
theorem kC_yX7_pair : Cond.code yX7_pair cX7_pair 5 (Option.some Jvm.ClassFile.FieldType.int) ∈ lw_tbl := List.mem_append_right _ (List.mem_of_getElem? (i := 303) (by decide +kernel))
theorem kM_L_32 : Cond.methodLink "CrowdLawsLaw" 32 yX7_all ∈ lw_tbl := List.mem_append_right _ (List.mem_of_getElem? (i := 304) (by decide +kernel))
theorem kI_yX7_all : Cond.instanceMethod yX7_all ∈ lw_tbl := List.mem_append_right _ (List.mem_of_getElem? (i := 305) (by decide +kernel))
theorem kS_yX7_all : Cond.selects RX7 yX7_all yX7_all ∈ lw_tbl := List.mem_append_right _ (List.mem_of_getElem? (i := 306) (by decide +kernel))
theorem kC_yX7_all : Cond.code yX7_all cX7_all 4 (Option.some Jvm.ClassFile.FieldType.int) ∈ lw_tbl := List.mem_append_right _ (List.mem_of_getElem? (i := 307) (by decide +kernel))
theorem kM_X7_67 : Cond.methodLink RX7 67 yX5_isMap ∈ lw_tbl := List.mem_append_right _ (List.mem_of_getElem? (i := 308) (by decide +kernel))
theorem kI_yX5_isMap : Cond.instanceMethod yX5_isMap ∈ lw_tbl := List.mem_append_right _ (List.mem_of_getElem? (i := 309) (by decide +kernel))
theorem kS_yX5_isMap : Cond.selects RX5 yX5_isMap yX5_isMap ∈ lw_tbl := List.mem_append_right _ (List.mem_of_getElem? (i := 310) (by decide +kernel))
theorem kC_yX5_isMap : Cond.code yX5_isMap cX5_isMap 4 (Option.some Jvm.ClassFile.FieldType.boolean) ∈ lw_tbl := List.mem_append_right _ (List.mem_of_getElem? (i := 311) (by decide +kernel))
theorem kM_X5_42 : Cond.methodLink RX5 42 yX5_hasFewDigits ∈ lw_tbl := List.mem_append_right _ (List.mem_of_getElem? (i := 312) (by decide +kernel))
theorem kI_yX5_hasFewDigits : Cond.instanceMethod yX5_hasFewDigits ∈ lw_tbl := List.mem_append_right _ (List.mem_of_getElem? (i := 313) (by decide +kernel))
theorem kS_yX5_hasFewDigits : Cond.selects RX5 yX5_hasFewDigits yX5_hasFewDigits ∈ lw_tbl := List.mem_append_right _ (List.mem_of_getElem? (i := 314) (by decide +kernel))
theorem kC_yX5_hasFewDigits : Cond.code yX5_hasFewDigits cX5_hasFewDigits 4 (Option.some Jvm.ClassFile.FieldType.boolean) ∈ lw_tbl := List.mem_append_right _ (List.mem_of_getElem? (i := 315) (by decide +kernel))
theorem kM_X5_46 : Cond.methodLink RX5 46 yX5_isState ∈ lw_tbl := List.mem_append_right _ (List.mem_of_getElem? (i := 316) (by decide +kernel))
theorem kM_L_37 : Cond.methodLink "CrowdLawsLaw" 37 yX7_need ∈ lw_tbl := List.mem_append_right _ (List.mem_of_getElem? (i := 317) (by decide +kernel))
theorem kI_yX7_need : Cond.instanceMethod yX7_need ∈ lw_tbl := List.mem_append_right _ (List.mem_of_getElem? (i := 318) (by decide +kernel))
theorem kS_yX7_need : Cond.selects RX7 yX7_need yX7_need ∈ lw_tbl := List.mem_append_right _ (List.mem_of_getElem? (i := 319) (by decide +kernel))
theorem kC_yX7_need : Cond.code yX7_need cX7_need 5 (Option.some Jvm.ClassFile.FieldType.int) ∈ lw_tbl := List.mem_append_right _ (List.mem_of_getElem? (i := 320) (by decide +kernel))
theorem kM_X7_70 : Cond.methodLink RX7 70 yX5_isRule ∈ lw_tbl := List.mem_append_right _ (List.mem_of_getElem? (i := 321) (by decide +kernel))
theorem kI_yX5_isRule : Cond.instanceMethod yX5_isRule ∈ lw_tbl := List.mem_append_right _ (List.mem_of_getElem? (i := 322) (by decide +kernel))
theorem kS_yX5_isRule : Cond.selects RX5 yX5_isRule yX5_isRule ∈ lw_tbl := List.mem_append_right _ (List.mem_of_getElem? (i := 323) (by decide +kernel))
theorem kC_yX5_isRule : Cond.code yX5_isRule cX5_isRule 2 (Option.some Jvm.ClassFile.FieldType.boolean) ∈ lw_tbl := List.mem_append_right _ (List.mem_of_getElem? (i := 324) (by decide +kernel))
theorem kM_L_41 : Cond.methodLink "CrowdLawsLaw" 41 yX7_rule ∈ lw_tbl := List.mem_append_right _ (List.mem_of_getElem? (i := 325) (by decide +kernel))
theorem kI_yX7_rule : Cond.instanceMethod yX7_rule ∈ lw_tbl := List.mem_append_right _ (List.mem_of_getElem? (i := 326) (by decide +kernel))
theorem kS_yX7_rule : Cond.selects RX7 yX7_rule yX7_rule ∈ lw_tbl := List.mem_append_right _ (List.mem_of_getElem? (i := 327) (by decide +kernel))
theorem kC_yX7_rule : Cond.code yX7_rule cX7_rule 4 (Option.some Jvm.ClassFile.FieldType.int) ∈ lw_tbl := List.mem_append_right _ (List.mem_of_getElem? (i := 328) (by decide +kernel))
theorem kM_L_45 : Cond.methodLink "CrowdLawsLaw" 45 yX7_bad ∈ lw_tbl := List.mem_append_right _ (List.mem_of_getElem? (i := 329) (by decide +kernel))
theorem kI_yX7_bad : Cond.instanceMethod yX7_bad ∈ lw_tbl := List.mem_append_right _ (List.mem_of_getElem? (i := 330) (by decide +kernel))
theorem kS_yX7_bad : Cond.selects RX7 yX7_bad yX7_bad ∈ lw_tbl := List.mem_append_right _ (List.mem_of_getElem? (i := 331) (by decide +kernel))
theorem kC_yX7_bad : Cond.code yX7_bad cX7_bad 2 (Option.some Jvm.ClassFile.FieldType.int) ∈ lw_tbl := List.mem_append_right _ (List.mem_of_getElem? (i := 332) (by decide +kernel))
theorem kM_X7_100 : Cond.methodLink RX7 100 yX5_hasFewDigits ∈ lw_tbl := List.mem_append_right _ (List.mem_of_getElem? (i := 333) (by decide +kernel))
theorem kM_X7_106 : Cond.methodLink RX7 106 yX5_addBad ∈ lw_tbl := List.mem_append_right _ (List.mem_of_getElem? (i := 334) (by decide +kernel))
theorem kI_yX5_addBad : Cond.instanceMethod yX5_addBad ∈ lw_tbl := List.mem_append_right _ (List.mem_of_getElem? (i := 335) (by decide +kernel))
theorem kS_yX5_addBad : Cond.selects RX5 yX5_addBad yX5_addBad ∈ lw_tbl := List.mem_append_right _ (List.mem_of_getElem? (i := 336) (by decide +kernel))
theorem kC_yX5_addBad : Cond.code yX5_addBad cX5_addBad 2 (Option.none : Option Jvm.ClassFile.FieldType) ∈ lw_tbl := List.mem_append_right _ (List.mem_of_getElem? (i := 337) (by decide +kernel))
theorem kM_X5_49 : Cond.methodLink RX5 49 yX3_read ∈ lw_tbl := List.mem_append_right _ (List.mem_of_getElem? (i := 338) (by decide +kernel))
theorem kI_yX3_read : Cond.instanceMethod yX3_read ∈ lw_tbl := List.mem_append_right _ (List.mem_of_getElem? (i := 339) (by decide +kernel))
theorem kS_yX3_read : Cond.selects RX3 yX3_read yX3_read ∈ lw_tbl := List.mem_append_right _ (List.mem_of_getElem? (i := 340) (by decide +kernel))
theorem kC_yX3_read : Cond.code yX3_read cX3_read 4 (Option.none : Option Jvm.ClassFile.FieldType) ∈ lw_tbl := List.mem_append_right _ (List.mem_of_getElem? (i := 341) (by decide +kernel))
theorem kM_L_49 : Cond.methodLink "CrowdLawsLaw" 49 yX7_put ∈ lw_tbl := List.mem_append_right _ (List.mem_of_getElem? (i := 342) (by decide +kernel))
theorem kI_yX7_put : Cond.instanceMethod yX7_put ∈ lw_tbl := List.mem_append_right _ (List.mem_of_getElem? (i := 343) (by decide +kernel))
theorem kS_yX7_put : Cond.selects RX7 yX7_put yX7_put ∈ lw_tbl := List.mem_append_right _ (List.mem_of_getElem? (i := 344) (by decide +kernel))
theorem kC_yX7_put : Cond.code yX7_put cX7_put 4 (Option.some Jvm.ClassFile.FieldType.int) ∈ lw_tbl := List.mem_append_right _ (List.mem_of_getElem? (i := 345) (by decide +kernel))
theorem kM_X7_109 : Cond.methodLink RX7 109 yX3_of ∈ lw_tbl := List.mem_append_right _ (List.mem_of_getElem? (i := 346) (by decide +kernel))
theorem kI_yX3_of : Cond.instanceMethod yX3_of ∈ lw_tbl := List.mem_append_right _ (List.mem_of_getElem? (i := 347) (by decide +kernel))
theorem kS_yX3_of : Cond.selects RX3 yX3_of yX3_of ∈ lw_tbl := List.mem_append_right _ (List.mem_of_getElem? (i := 348) (by decide +kernel))
theorem kC_yX3_of : Cond.code yX3_of cX3_of 2 (Option.some Jvm.ClassFile.FieldType.int) ∈ lw_tbl := List.mem_append_right _ (List.mem_of_getElem? (i := 349) (by decide +kernel))
theorem kM_X7_113 : Cond.methodLink RX7 113 yX3_sum ∈ lw_tbl := List.mem_append_right _ (List.mem_of_getElem? (i := 350) (by decide +kernel))
theorem kI_yX3_sum : Cond.instanceMethod yX3_sum ∈ lw_tbl := List.mem_append_right _ (List.mem_of_getElem? (i := 351) (by decide +kernel))
theorem kS_yX3_sum : Cond.selects RX3 yX3_sum yX3_sum ∈ lw_tbl := List.mem_append_right _ (List.mem_of_getElem? (i := 352) (by decide +kernel))
theorem kC_yX3_sum : Cond.code yX3_sum cX3_sum 3 (Option.some Jvm.ClassFile.FieldType.int) ∈ lw_tbl := List.mem_append_right _ (List.mem_of_getElem? (i := 353) (by decide +kernel))
theorem kM_X7_117 : Cond.methodLink RX7 117 yX3_set ∈ lw_tbl := List.mem_append_right _ (List.mem_of_getElem? (i := 354) (by decide +kernel))
theorem kI_yX3_set : Cond.instanceMethod yX3_set ∈ lw_tbl := List.mem_append_right _ (List.mem_of_getElem? (i := 355) (by decide +kernel))
theorem kS_yX3_set : Cond.selects RX3 yX3_set yX3_set ∈ lw_tbl := List.mem_append_right _ (List.mem_of_getElem? (i := 356) (by decide +kernel))
theorem kC_yX3_set : Cond.code yX3_set cX3_set 3 (Option.none : Option Jvm.ClassFile.FieldType) ∈ lw_tbl := List.mem_append_right _ (List.mem_of_getElem? (i := 357) (by decide +kernel))
theorem kM_L_53 : Cond.methodLink "CrowdLawsLaw" 53 yX7_at ∈ lw_tbl := List.mem_append_right _ (List.mem_of_getElem? (i := 358) (by decide +kernel))
theorem kI_yX7_at : Cond.instanceMethod yX7_at ∈ lw_tbl := List.mem_append_right _ (List.mem_of_getElem? (i := 359) (by decide +kernel))
theorem kS_yX7_at : Cond.selects RX7 yX7_at yX7_at ∈ lw_tbl := List.mem_append_right _ (List.mem_of_getElem? (i := 360) (by decide +kernel))
theorem kC_yX7_at : Cond.code yX7_at cX7_at 2 (Option.some Jvm.ClassFile.FieldType.int) ∈ lw_tbl := List.mem_append_right _ (List.mem_of_getElem? (i := 361) (by decide +kernel))
theorem kM_L_57 : Cond.methodLink "CrowdLawsLaw" 57 yX7_can ∈ lw_tbl := List.mem_append_right _ (List.mem_of_getElem? (i := 362) (by decide +kernel))
theorem kI_yX7_can : Cond.instanceMethod yX7_can ∈ lw_tbl := List.mem_append_right _ (List.mem_of_getElem? (i := 363) (by decide +kernel))
theorem kS_yX7_can : Cond.selects RX7 yX7_can yX7_can ∈ lw_tbl := List.mem_append_right _ (List.mem_of_getElem? (i := 364) (by decide +kernel))
theorem kC_yX7_can : Cond.code yX7_can cX7_can 2 (Option.some Jvm.ClassFile.FieldType.int) ∈ lw_tbl := List.mem_append_right _ (List.mem_of_getElem? (i := 365) (by decide +kernel))
theorem kM_X7_121 : Cond.methodLink RX7 121 yX6_fits ∈ lw_tbl := List.mem_append_right _ (List.mem_of_getElem? (i := 366) (by decide +kernel))
theorem kI_yX6_fits : Cond.instanceMethod yX6_fits ∈ lw_tbl := List.mem_append_right _ (List.mem_of_getElem? (i := 367) (by decide +kernel))
theorem kS_yX6_fits : Cond.selects RX6 yX6_fits yX6_fits ∈ lw_tbl := List.mem_append_right _ (List.mem_of_getElem? (i := 368) (by decide +kernel))
theorem kC_yX6_fits : Cond.code yX6_fits cX6_fits 4 (Option.some Jvm.ClassFile.FieldType.boolean) ∈ lw_tbl := List.mem_append_right _ (List.mem_of_getElem? (i := 369) (by decide +kernel))
theorem kM_X6_40 : Cond.methodLink RX6 40 yX6_leavers ∈ lw_tbl := List.mem_append_right _ (List.mem_of_getElem? (i := 370) (by decide +kernel))
theorem kI_yX6_leavers : Cond.instanceMethod yX6_leavers ∈ lw_tbl := List.mem_append_right _ (List.mem_of_getElem? (i := 372) (by decide +kernel))
theorem kC_yX6_leavers : Cond.code yX6_leavers cX6_leavers 2 (Option.some Jvm.ClassFile.FieldType.int) ∈ lw_tbl := List.mem_append_right _ (List.mem_of_getElem? (i := 373) (by decide +kernel))
theorem kM_X6_44 : Cond.methodLink RX6 44 yX3_of ∈ lw_tbl := List.mem_append_right _ (List.mem_of_getElem? (i := 374) (by decide +kernel))
theorem kM_L_61 : Cond.methodLink "CrowdLawsLaw" 61 yX7_step ∈ lw_tbl := List.mem_append_right _ (List.mem_of_getElem? (i := 375) (by decide +kernel))
theorem kI_yX7_step : Cond.instanceMethod yX7_step ∈ lw_tbl := List.mem_append_right _ (List.mem_of_getElem? (i := 376) (by decide +kernel))
theorem kS_yX7_step : Cond.selects RX7 yX7_step yX7_step ∈ lw_tbl := List.mem_append_right _ (List.mem_of_getElem? (i := 377) (by decide +kernel))
theorem kC_yX7_step : Cond.code yX7_step cX7_step 3 (Option.some Jvm.ClassFile.FieldType.int) ∈ lw_tbl := List.mem_append_right _ (List.mem_of_getElem? (i := 378) (by decide +kernel))
theorem kM_X7_128 : Cond.methodLink RX7 128 yX6_lead ∈ lw_tbl := List.mem_append_right _ (List.mem_of_getElem? (i := 379) (by decide +kernel))
theorem kI_yX6_lead : Cond.instanceMethod yX6_lead ∈ lw_tbl := List.mem_append_right _ (List.mem_of_getElem? (i := 380) (by decide +kernel))
theorem kS_yX6_lead : Cond.selects RX6 yX6_lead yX6_lead ∈ lw_tbl := List.mem_append_right _ (List.mem_of_getElem? (i := 381) (by decide +kernel))
theorem kC_yX6_lead : Cond.code yX6_lead cX6_lead 4 (Option.none : Option Jvm.ClassFile.FieldType) ∈ lw_tbl := List.mem_append_right _ (List.mem_of_getElem? (i := 382) (by decide +kernel))
theorem kM_X6_49 : Cond.methodLink RX6 49 yX3_clear ∈ lw_tbl := List.mem_append_right _ (List.mem_of_getElem? (i := 383) (by decide +kernel))
theorem kM_X6_52 : Cond.methodLink RX6 52 yX3_add ∈ lw_tbl := List.mem_append_right _ (List.mem_of_getElem? (i := 384) (by decide +kernel))
theorem kI_yX3_add : Cond.instanceMethod yX3_add ∈ lw_tbl := List.mem_append_right _ (List.mem_of_getElem? (i := 385) (by decide +kernel))
theorem kS_yX3_add : Cond.selects RX3 yX3_add yX3_add ∈ lw_tbl := List.mem_append_right _ (List.mem_of_getElem? (i := 386) (by decide +kernel))
theorem kC_yX3_add : Cond.code yX3_add cX3_add 3 (Option.none : Option Jvm.ClassFile.FieldType) ∈ lw_tbl := List.mem_append_right _ (List.mem_of_getElem? (i := 387) (by decide +kernel))
theorem kM_X7_132 : Cond.methodLink RX7 132 yX3_copy ∈ lw_tbl := List.mem_append_right _ (List.mem_of_getElem? (i := 388) (by decide +kernel))
theorem kI_yX3_copy : Cond.instanceMethod yX3_copy ∈ lw_tbl := List.mem_append_right _ (List.mem_of_getElem? (i := 389) (by decide +kernel))
theorem kS_yX3_copy : Cond.selects RX3 yX3_copy yX3_copy ∈ lw_tbl := List.mem_append_right _ (List.mem_of_getElem? (i := 390) (by decide +kernel))
theorem kC_yX3_copy : Cond.code yX3_copy cX3_copy 3 (Option.none : Option Jvm.ClassFile.FieldType) ∈ lw_tbl := List.mem_append_right _ (List.mem_of_getElem? (i := 391) (by decide +kernel))
theorem kM_X3_15 : Cond.methodLink RX3 15 yX3_of ∈ lw_tbl := List.mem_append_right _ (List.mem_of_getElem? (i := 392) (by decide +kernel))
theorem kM_X7_136 : Cond.methodLink RX7 136 yX5_countFitting ∈ lw_tbl := List.mem_append_right _ (List.mem_of_getElem? (i := 393) (by decide +kernel))
theorem kI_yX5_countFitting : Cond.instanceMethod yX5_countFitting ∈ lw_tbl := List.mem_append_right _ (List.mem_of_getElem? (i := 394) (by decide +kernel))
theorem kS_yX5_countFitting : Cond.selects RX5 yX5_countFitting yX5_countFitting ∈ lw_tbl := List.mem_append_right _ (List.mem_of_getElem? (i := 395) (by decide +kernel))
theorem kC_yX5_countFitting : Cond.code yX5_countFitting cX5_countFitting 4 (Option.some Jvm.ClassFile.FieldType.int) ∈ lw_tbl := List.mem_append_right _ (List.mem_of_getElem? (i := 396) (by decide +kernel))
theorem kM_X5_61 : Cond.methodLink RX5 61 yX6_fits ∈ lw_tbl := List.mem_append_right _ (List.mem_of_getElem? (i := 397) (by decide +kernel))
theorem kM_L_65 : Cond.methodLink "CrowdLawsLaw" 65 yX7_isBad ∈ lw_tbl := List.mem_append_right _ (List.mem_of_getElem? (i := 398) (by decide +kernel))
theorem kI_yX7_isBad : Cond.instanceMethod yX7_isBad ∈ lw_tbl := List.mem_append_right _ (List.mem_of_getElem? (i := 399) (by decide +kernel))
theorem kS_yX7_isBad : Cond.selects RX7 yX7_isBad yX7_isBad ∈ lw_tbl := List.mem_append_right _ (List.mem_of_getElem? (i := 400) (by decide +kernel))
theorem kC_yX7_isBad : Cond.code yX7_isBad cX7_isBad 1 (Option.some Jvm.ClassFile.FieldType.int) ∈ lw_tbl := List.mem_append_right _ (List.mem_of_getElem? (i := 401) (by decide +kernel))
theorem kM_X7_140 : Cond.methodLink RX7 140 yX5_isBadCrowd ∈ lw_tbl := List.mem_append_right _ (List.mem_of_getElem? (i := 402) (by decide +kernel))
theorem kI_yX5_isBadCrowd : Cond.instanceMethod yX5_isBadCrowd ∈ lw_tbl := List.mem_append_right _ (List.mem_of_getElem? (i := 403) (by decide +kernel))
theorem kS_yX5_isBadCrowd : Cond.selects RX5 yX5_isBadCrowd yX5_isBadCrowd ∈ lw_tbl := List.mem_append_right _ (List.mem_of_getElem? (i := 404) (by decide +kernel))
theorem kC_yX5_isBadCrowd : Cond.code yX5_isBadCrowd cX5_isBadCrowd 3 (Option.some Jvm.ClassFile.FieldType.boolean) ∈ lw_tbl := List.mem_append_right _ (List.mem_of_getElem? (i := 405) (by decide +kernel))
theorem kM_X5_53 : Cond.methodLink RX5 53 yX3_isAtLeast ∈ lw_tbl := List.mem_append_right _ (List.mem_of_getElem? (i := 406) (by decide +kernel))
theorem kI_yX3_isAtLeast : Cond.instanceMethod yX3_isAtLeast ∈ lw_tbl := List.mem_append_right _ (List.mem_of_getElem? (i := 407) (by decide +kernel))
theorem kS_yX3_isAtLeast : Cond.selects RX3 yX3_isAtLeast yX3_isAtLeast ∈ lw_tbl := List.mem_append_right _ (List.mem_of_getElem? (i := 408) (by decide +kernel))
theorem kC_yX3_isAtLeast : Cond.code yX3_isAtLeast cX3_isAtLeast 3 (Option.some Jvm.ClassFile.FieldType.boolean) ∈ lw_tbl := List.mem_append_right _ (List.mem_of_getElem? (i := 409) (by decide +kernel))
theorem kM_L_70 : Cond.methodLink "CrowdLawsLaw" 70 yX7_doomed ∈ lw_tbl := List.mem_append_right _ (List.mem_of_getElem? (i := 410) (by decide +kernel))
theorem kI_yX7_doomed : Cond.instanceMethod yX7_doomed ∈ lw_tbl := List.mem_append_right _ (List.mem_of_getElem? (i := 411) (by decide +kernel))
theorem kS_yX7_doomed : Cond.selects RX7 yX7_doomed yX7_doomed ∈ lw_tbl := List.mem_append_right _ (List.mem_of_getElem? (i := 412) (by decide +kernel))
theorem kC_yX7_doomed : Cond.code yX7_doomed cX7_doomed 1 (Option.some Jvm.ClassFile.FieldType.int) ∈ lw_tbl := List.mem_append_right _ (List.mem_of_getElem? (i := 413) (by decide +kernel))
theorem kM_X7_146 : Cond.methodLink RX7 146 yX0_dooms ∈ lw_tbl := List.mem_append_right _ (List.mem_of_getElem? (i := 414) (by decide +kernel))
theorem kI_yX0_dooms : Cond.instanceMethod yX0_dooms ∈ lw_tbl := List.mem_append_right _ (List.mem_of_getElem? (i := 415) (by decide +kernel))
theorem kS_yX0_dooms : Cond.selects RX0 yX0_dooms yX0_dooms ∈ lw_tbl := List.mem_append_right _ (List.mem_of_getElem? (i := 416) (by decide +kernel))
theorem kC_yX0_dooms : Cond.code yX0_dooms cX0_dooms 2 (Option.some Jvm.ClassFile.FieldType.boolean) ∈ lw_tbl := List.mem_append_right _ (List.mem_of_getElem? (i := 417) (by decide +kernel))
theorem kM_X0_48 : Cond.methodLink RX0 48 yX1_cover ∈ lw_tbl := List.mem_append_right _ (List.mem_of_getElem? (i := 418) (by decide +kernel))
theorem kI_yX1_cover : Cond.instanceMethod yX1_cover ∈ lw_tbl := List.mem_append_right _ (List.mem_of_getElem? (i := 419) (by decide +kernel))
theorem kS_yX1_cover : Cond.selects RX1 yX1_cover yX1_cover ∈ lw_tbl := List.mem_append_right _ (List.mem_of_getElem? (i := 420) (by decide +kernel))
theorem kC_yX1_cover : Cond.code yX1_cover cX1_cover 3 (Option.some Jvm.ClassFile.FieldType.boolean) ∈ lw_tbl := List.mem_append_right _ (List.mem_of_getElem? (i := 421) (by decide +kernel))
theorem kM_X1_29 : Cond.methodLink RX1 29 yX3_isAtLeast ∈ lw_tbl := List.mem_append_right _ (List.mem_of_getElem? (i := 422) (by decide +kernel))
theorem kM_L_74 : Cond.methodLink "CrowdLawsLaw" 74 yX7_search ∈ lw_tbl := List.mem_append_right _ (List.mem_of_getElem? (i := 423) (by decide +kernel))
theorem kI_yX7_search : Cond.instanceMethod yX7_search ∈ lw_tbl := List.mem_append_right _ (List.mem_of_getElem? (i := 424) (by decide +kernel))
theorem kS_yX7_search : Cond.selects RX7 yX7_search yX7_search ∈ lw_tbl := List.mem_append_right _ (List.mem_of_getElem? (i := 425) (by decide +kernel))
theorem kC_yX7_search : Cond.code yX7_search cX7_search 1 (Option.some Jvm.ClassFile.FieldType.int) ∈ lw_tbl := List.mem_append_right _ (List.mem_of_getElem? (i := 426) (by decide +kernel))
theorem kM_X7_149 : Cond.methodLink RX7 149 yX0_seek ∈ lw_tbl := List.mem_append_right _ (List.mem_of_getElem? (i := 427) (by decide +kernel))
theorem kI_yX0_seek : Cond.instanceMethod yX0_seek ∈ lw_tbl := List.mem_append_right _ (List.mem_of_getElem? (i := 428) (by decide +kernel))
theorem kS_yX0_seek : Cond.selects RX0 yX0_seek yX0_seek ∈ lw_tbl := List.mem_append_right _ (List.mem_of_getElem? (i := 429) (by decide +kernel))
theorem kC_yX0_seek : Cond.code yX0_seek cX0_seek 3 (Option.none : Option Jvm.ClassFile.FieldType) ∈ lw_tbl := List.mem_append_right _ (List.mem_of_getElem? (i := 430) (by decide +kernel))
theorem kM_X0_68 : Cond.methodLink RX0 68 yX0_takeBadOnes ∈ lw_tbl := List.mem_append_right _ (List.mem_of_getElem? (i := 431) (by decide +kernel))
theorem kI_yX0_takeBadOnes : Cond.instanceMethod yX0_takeBadOnes ∈ lw_tbl := List.mem_append_right _ (List.mem_of_getElem? (i := 433) (by decide +kernel))
theorem kC_yX0_takeBadOnes : Cond.code yX0_takeBadOnes cX0_takeBadOnes 3 (Option.none : Option Jvm.ClassFile.FieldType) ∈ lw_tbl := List.mem_append_right _ (List.mem_of_getElem? (i := 434) (by decide +kernel))
theorem kM_X0_81 : Cond.methodLink RX0 81 yX1_clear ∈ lw_tbl := List.mem_append_right _ (List.mem_of_getElem? (i := 435) (by decide +kernel))
theorem kI_yX1_clear : Cond.instanceMethod yX1_clear ∈ lw_tbl := List.mem_append_right _ (List.mem_of_getElem? (i := 436) (by decide +kernel))
theorem kS_yX1_clear : Cond.selects RX1 yX1_clear yX1_clear ∈ lw_tbl := List.mem_append_right _ (List.mem_of_getElem? (i := 437) (by decide +kernel))
theorem kC_yX1_clear : Cond.code yX1_clear cX1_clear 1 (Option.none : Option Jvm.ClassFile.FieldType) ∈ lw_tbl := List.mem_append_right _ (List.mem_of_getElem? (i := 438) (by decide +kernel))
theorem kM_X0_64 : Cond.methodLink RX0 64 yX3_sum ∈ lw_tbl := List.mem_append_right _ (List.mem_of_getElem? (i := 439) (by decide +kernel))
theorem kM_X0_90 : Cond.methodLink RX0 90 yX1_take ∈ lw_tbl := List.mem_append_right _ (List.mem_of_getElem? (i := 440) (by decide +kernel))
theorem kI_yX1_take : Cond.instanceMethod yX1_take ∈ lw_tbl := List.mem_append_right _ (List.mem_of_getElem? (i := 441) (by decide +kernel))
theorem kS_yX1_take : Cond.selects RX1 yX1_take yX1_take ∈ lw_tbl := List.mem_append_right _ (List.mem_of_getElem? (i := 442) (by decide +kernel))
theorem kC_yX1_take : Cond.code yX1_take cX1_take 5 (Option.none : Option Jvm.ClassFile.FieldType) ∈ lw_tbl := List.mem_append_right _ (List.mem_of_getElem? (i := 443) (by decide +kernel))
theorem kM_X1_33 : Cond.methodLink RX1 33 yX1_areTooMany ∈ lw_tbl := List.mem_append_right _ (List.mem_of_getElem? (i := 444) (by decide +kernel))
theorem kI_yX1_areTooMany : Cond.instanceMethod yX1_areTooMany ∈ lw_tbl := List.mem_append_right _ (List.mem_of_getElem? (i := 445) (by decide +kernel))
theorem kS_yX1_areTooMany : Cond.selects RX1 yX1_areTooMany yX1_areTooMany ∈ lw_tbl := List.mem_append_right _ (List.mem_of_getElem? (i := 446) (by decide +kernel))
theorem kC_yX1_areTooMany : Cond.code yX1_areTooMany cX1_areTooMany 1 (Option.some Jvm.ClassFile.FieldType.boolean) ∈ lw_tbl := List.mem_append_right _ (List.mem_of_getElem? (i := 447) (by decide +kernel))
theorem kM_X1_37 : Cond.methodLink RX1 37 yX3_copy ∈ lw_tbl := List.mem_append_right _ (List.mem_of_getElem? (i := 448) (by decide +kernel))
theorem kM_X1_41 : Cond.methodLink RX1 41 yX3_comesBefore ∈ lw_tbl := List.mem_append_right _ (List.mem_of_getElem? (i := 449) (by decide +kernel))
theorem kI_yX3_comesBefore : Cond.instanceMethod yX3_comesBefore ∈ lw_tbl := List.mem_append_right _ (List.mem_of_getElem? (i := 450) (by decide +kernel))
theorem kS_yX3_comesBefore : Cond.selects RX3 yX3_comesBefore yX3_comesBefore ∈ lw_tbl := List.mem_append_right _ (List.mem_of_getElem? (i := 451) (by decide +kernel))
theorem kC_yX3_comesBefore : Cond.code yX3_comesBefore cX3_comesBefore 6 (Option.some Jvm.ClassFile.FieldType.boolean) ∈ lw_tbl := List.mem_append_right _ (List.mem_of_getElem? (i := 452) (by decide +kernel))
theorem kM_X0_71 : Cond.methodLink RX0 71 yX0_goRound ∈ lw_tbl := List.mem_append_right _ (List.mem_of_getElem? (i := 453) (by decide +kernel))
theorem kI_yX0_goRound : Cond.instanceMethod yX0_goRound ∈ lw_tbl := List.mem_append_right _ (List.mem_of_getElem? (i := 455) (by decide +kernel))
theorem kC_yX0_goRound : Cond.code yX0_goRound cX0_goRound 3 (Option.none : Option Jvm.ClassFile.FieldType) ∈ lw_tbl := List.mem_append_right _ (List.mem_of_getElem? (i := 456) (by decide +kernel))
theorem kM_X0_94 : Cond.methodLink RX0 94 yX0_findSums ∈ lw_tbl := List.mem_append_right _ (List.mem_of_getElem? (i := 457) (by decide +kernel))
theorem kI_yX0_findSums : Cond.instanceMethod yX0_findSums ∈ lw_tbl := List.mem_append_right _ (List.mem_of_getElem? (i := 459) (by decide +kernel))
theorem kC_yX0_findSums : Cond.code yX0_findSums cX0_findSums 5 (Option.some Jvm.ClassFile.FieldType.int) ∈ lw_tbl := List.mem_append_right _ (List.mem_of_getElem? (i := 460) (by decide +kernel))
theorem kM_X0_104 : Cond.methodLink RX0 104 Lib.Math.max.name ∈ lw_tbl := List.mem_append_right _ (List.mem_of_getElem? (i := 461) (by decide +kernel))
theorem kT_Lib_Math_max_name : Cond.static Lib.Math.max.name ∈ lw_tbl := List.mem_append_right _ (List.mem_of_getElem? (i := 462) (by decide +kernel))
theorem kC_Lib_Math_max_name : Cond.code Lib.Math.max.name Lib.Math.max.code 2 (Option.some Jvm.ClassFile.FieldType.int) ∈ lw_tbl := List.mem_append_right _ (List.mem_of_getElem? (i := 463) (by decide +kernel))
theorem kM_X0_120 : Cond.methodLink RX0 120 yX6_findLack ∈ lw_tbl := List.mem_append_right _ (List.mem_of_getElem? (i := 464) (by decide +kernel))
theorem kI_yX6_findLack : Cond.instanceMethod yX6_findLack ∈ lw_tbl := List.mem_append_right _ (List.mem_of_getElem? (i := 465) (by decide +kernel))
theorem kS_yX6_findLack : Cond.selects RX6 yX6_findLack yX6_findLack ∈ lw_tbl := List.mem_append_right _ (List.mem_of_getElem? (i := 466) (by decide +kernel))
theorem kC_yX6_findLack : Cond.code yX6_findLack cX6_findLack 7 (Option.some Jvm.ClassFile.FieldType.int) ∈ lw_tbl := List.mem_append_right _ (List.mem_of_getElem? (i := 467) (by decide +kernel))
theorem kM_X6_56 : Cond.methodLink RX6 56 yX6_comers ∈ lw_tbl := List.mem_append_right _ (List.mem_of_getElem? (i := 468) (by decide +kernel))
theorem kI_yX6_comers : Cond.instanceMethod yX6_comers ∈ lw_tbl := List.mem_append_right _ (List.mem_of_getElem? (i := 470) (by decide +kernel))
theorem kC_yX6_comers : Cond.code yX6_comers cX6_comers 2 (Option.some Jvm.ClassFile.FieldType.int) ∈ lw_tbl := List.mem_append_right _ (List.mem_of_getElem? (i := 471) (by decide +kernel))
theorem kM_X6_59 : Cond.methodLink RX6 59 Lib.Math.max.name ∈ lw_tbl := List.mem_append_right _ (List.mem_of_getElem? (i := 472) (by decide +kernel))
theorem kM_X6_65 : Cond.methodLink RX6 65 yX6_isGoal ∈ lw_tbl := List.mem_append_right _ (List.mem_of_getElem? (i := 473) (by decide +kernel))
theorem kI_yX6_isGoal : Cond.instanceMethod yX6_isGoal ∈ lw_tbl := List.mem_append_right _ (List.mem_of_getElem? (i := 475) (by decide +kernel))
theorem kC_yX6_isGoal : Cond.code yX6_isGoal cX6_isGoal 4 (Option.some Jvm.ClassFile.FieldType.boolean) ∈ lw_tbl := List.mem_append_right _ (List.mem_of_getElem? (i := 476) (by decide +kernel))
theorem kM_X6_69 : Cond.methodLink RX6 69 yX6_goalOf ∈ lw_tbl := List.mem_append_right _ (List.mem_of_getElem? (i := 477) (by decide +kernel))
theorem kI_yX6_goalOf : Cond.instanceMethod yX6_goalOf ∈ lw_tbl := List.mem_append_right _ (List.mem_of_getElem? (i := 478) (by decide +kernel))
theorem kS_yX6_goalOf : Cond.selects RX6 yX6_goalOf yX6_goalOf ∈ lw_tbl := List.mem_append_right _ (List.mem_of_getElem? (i := 479) (by decide +kernel))
theorem kC_yX6_goalOf : Cond.code yX6_goalOf cX6_goalOf 2 (Option.some Jvm.ClassFile.FieldType.int) ∈ lw_tbl := List.mem_append_right _ (List.mem_of_getElem? (i := 480) (by decide +kernel))
theorem kM_X6_72 : Cond.methodLink RX6 72 yX3_set ∈ lw_tbl := List.mem_append_right _ (List.mem_of_getElem? (i := 481) (by decide +kernel))
theorem kM_X0_126 : Cond.methodLink RX0 126 yX2_set ∈ lw_tbl := List.mem_append_right _ (List.mem_of_getElem? (i := 482) (by decide +kernel))
theorem kI_yX2_set : Cond.instanceMethod yX2_set ∈ lw_tbl := List.mem_append_right _ (List.mem_of_getElem? (i := 483) (by decide +kernel))
theorem kS_yX2_set : Cond.selects RX2 yX2_set yX2_set ∈ lw_tbl := List.mem_append_right _ (List.mem_of_getElem? (i := 484) (by decide +kernel))
theorem kC_yX2_set : Cond.code yX2_set cX2_set 5 (Option.none : Option Jvm.ClassFile.FieldType) ∈ lw_tbl := List.mem_append_right _ (List.mem_of_getElem? (i := 485) (by decide +kernel))
theorem kM_X0_77 : Cond.methodLink RX0 77 yX1_areTooMany ∈ lw_tbl := List.mem_append_right _ (List.mem_of_getElem? (i := 486) (by decide +kernel))
theorem kM_X0_97 : Cond.methodLink RX0 97 yX0_keepOld ∈ lw_tbl := List.mem_append_right _ (List.mem_of_getElem? (i := 487) (by decide +kernel))
theorem kI_yX0_keepOld : Cond.instanceMethod yX0_keepOld ∈ lw_tbl := List.mem_append_right _ (List.mem_of_getElem? (i := 489) (by decide +kernel))
theorem kC_yX0_keepOld : Cond.code yX0_keepOld cX0_keepOld 3 (Option.none : Option Jvm.ClassFile.FieldType) ∈ lw_tbl := List.mem_append_right _ (List.mem_of_getElem? (i := 490) (by decide +kernel))
theorem kM_X0_101 : Cond.methodLink RX0 101 yX0_bringNew ∈ lw_tbl := List.mem_append_right _ (List.mem_of_getElem? (i := 491) (by decide +kernel))
theorem kI_yX0_bringNew : Cond.instanceMethod yX0_bringNew ∈ lw_tbl := List.mem_append_right _ (List.mem_of_getElem? (i := 493) (by decide +kernel))
theorem kC_yX0_bringNew : Cond.code yX0_bringNew cX0_bringNew 4 (Option.none : Option Jvm.ClassFile.FieldType) ∈ lw_tbl := List.mem_append_right _ (List.mem_of_getElem? (i := 494) (by decide +kernel))
theorem kM_X0_134 : Cond.methodLink RX0 134 yX2_of ∈ lw_tbl := List.mem_append_right _ (List.mem_of_getElem? (i := 495) (by decide +kernel))
theorem kI_yX2_of : Cond.instanceMethod yX2_of ∈ lw_tbl := List.mem_append_right _ (List.mem_of_getElem? (i := 496) (by decide +kernel))
theorem kS_yX2_of : Cond.selects RX2 yX2_of yX2_of ∈ lw_tbl := List.mem_append_right _ (List.mem_of_getElem? (i := 497) (by decide +kernel))
theorem kC_yX2_of : Cond.code yX2_of cX2_of 4 (Option.some Jvm.ClassFile.FieldType.int) ∈ lw_tbl := List.mem_append_right _ (List.mem_of_getElem? (i := 498) (by decide +kernel))
theorem kM_X0_137 : Cond.methodLink RX0 137 yX0_setOut ∈ lw_tbl := List.mem_append_right _ (List.mem_of_getElem? (i := 499) (by decide +kernel))
theorem kI_yX0_setOut : Cond.instanceMethod yX0_setOut ∈ lw_tbl := List.mem_append_right _ (List.mem_of_getElem? (i := 501) (by decide +kernel))
theorem kC_yX0_setOut : Cond.code yX0_setOut cX0_setOut 3 (Option.none : Option Jvm.ClassFile.FieldType) ∈ lw_tbl := List.mem_append_right _ (List.mem_of_getElem? (i := 502) (by decide +kernel))
theorem kM_X0_145 : Cond.methodLink RX0 145 yX3_clear ∈ lw_tbl := List.mem_append_right _ (List.mem_of_getElem? (i := 503) (by decide +kernel))
theorem kM_X0_149 : Cond.methodLink RX0 149 yX3_add ∈ lw_tbl := List.mem_append_right _ (List.mem_of_getElem? (i := 504) (by decide +kernel))
theorem kM_X0_159 : Cond.methodLink RX0 159 yX6_goalOf ∈ lw_tbl := List.mem_append_right _ (List.mem_of_getElem? (i := 505) (by decide +kernel))
theorem kM_X0_141 : Cond.methodLink RX0 141 yX0_fillFrom ∈ lw_tbl := List.mem_append_right _ (List.mem_of_getElem? (i := 506) (by decide +kernel))
theorem kI_yX0_fillFrom : Cond.instanceMethod yX0_fillFrom ∈ lw_tbl := List.mem_append_right _ (List.mem_of_getElem? (i := 508) (by decide +kernel))
theorem kC_yX0_fillFrom : Cond.code yX0_fillFrom cX0_fillFrom 9 (Option.some Jvm.ClassFile.FieldType.boolean) ∈ lw_tbl := List.mem_append_right _ (List.mem_of_getElem? (i := 509) (by decide +kernel))
theorem kM_X0_163 : Cond.methodLink RX0 163 yX3_of ∈ lw_tbl := List.mem_append_right _ (List.mem_of_getElem? (i := 510) (by decide +kernel))
theorem kM_X0_165 : Cond.methodLink RX0 165 yX6_isLastToGoal ∈ lw_tbl := List.mem_append_right _ (List.mem_of_getElem? (i := 511) (by decide +kernel))
theorem kI_yX6_isLastToGoal : Cond.instanceMethod yX6_isLastToGoal ∈ lw_tbl := List.mem_append_right _ (List.mem_of_getElem? (i := 512) (by decide +kernel))
theorem kS_yX6_isLastToGoal : Cond.selects RX6 yX6_isLastToGoal yX6_isLastToGoal ∈ lw_tbl := List.mem_append_right _ (List.mem_of_getElem? (i := 513) (by decide +kernel))
theorem kC_yX6_isLastToGoal : Cond.code yX6_isLastToGoal cX6_isLastToGoal 4 (Option.some Jvm.ClassFile.FieldType.boolean) ∈ lw_tbl := List.mem_append_right _ (List.mem_of_getElem? (i := 514) (by decide +kernel))
theorem kM_X0_169 : Cond.methodLink RX0 169 yX3_set ∈ lw_tbl := List.mem_append_right _ (List.mem_of_getElem? (i := 515) (by decide +kernel))
theorem kM_L_78 : Cond.methodLink "CrowdLawsLaw" 78 yX7_bases ∈ lw_tbl := List.mem_append_right _ (List.mem_of_getElem? (i := 516) (by decide +kernel))
theorem kI_yX7_bases : Cond.instanceMethod yX7_bases ∈ lw_tbl := List.mem_append_right _ (List.mem_of_getElem? (i := 517) (by decide +kernel))
theorem kS_yX7_bases : Cond.selects RX7 yX7_bases yX7_bases ∈ lw_tbl := List.mem_append_right _ (List.mem_of_getElem? (i := 518) (by decide +kernel))
theorem kC_yX7_bases : Cond.code yX7_bases cX7_bases 1 (Option.some Jvm.ClassFile.FieldType.int) ∈ lw_tbl := List.mem_append_right _ (List.mem_of_getElem? (i := 519) (by decide +kernel))
theorem kM_L_82 : Cond.methodLink "CrowdLawsLaw" 82 yX7_base ∈ lw_tbl := List.mem_append_right _ (List.mem_of_getElem? (i := 520) (by decide +kernel))
theorem kI_yX7_base : Cond.instanceMethod yX7_base ∈ lw_tbl := List.mem_append_right _ (List.mem_of_getElem? (i := 521) (by decide +kernel))
theorem kS_yX7_base : Cond.selects RX7 yX7_base yX7_base ∈ lw_tbl := List.mem_append_right _ (List.mem_of_getElem? (i := 522) (by decide +kernel))
theorem kC_yX7_base : Cond.code yX7_base cX7_base 3 (Option.some Jvm.ClassFile.FieldType.int) ∈ lw_tbl := List.mem_append_right _ (List.mem_of_getElem? (i := 523) (by decide +kernel))
theorem kM_L_86 : Cond.methodLink "CrowdLawsLaw" 86 yX7_least ∈ lw_tbl := List.mem_append_right _ (List.mem_of_getElem? (i := 524) (by decide +kernel))
theorem kI_yX7_least : Cond.instanceMethod yX7_least ∈ lw_tbl := List.mem_append_right _ (List.mem_of_getElem? (i := 525) (by decide +kernel))
theorem kS_yX7_least : Cond.selects RX7 yX7_least yX7_least ∈ lw_tbl := List.mem_append_right _ (List.mem_of_getElem? (i := 526) (by decide +kernel))
theorem kC_yX7_least : Cond.code yX7_least cX7_least 1 (Option.some Jvm.ClassFile.FieldType.int) ∈ lw_tbl := List.mem_append_right _ (List.mem_of_getElem? (i := 527) (by decide +kernel))
theorem kM_X7_165 : Cond.methodLink RX7 165 yX0_leastFromStart ∈ lw_tbl := List.mem_append_right _ (List.mem_of_getElem? (i := 528) (by decide +kernel))
theorem kI_yX0_leastFromStart : Cond.instanceMethod yX0_leastFromStart ∈ lw_tbl := List.mem_append_right _ (List.mem_of_getElem? (i := 529) (by decide +kernel))
theorem kS_yX0_leastFromStart : Cond.selects RX0 yX0_leastFromStart yX0_leastFromStart ∈ lw_tbl := List.mem_append_right _ (List.mem_of_getElem? (i := 530) (by decide +kernel))
theorem kC_yX0_leastFromStart : Cond.code yX0_leastFromStart cX0_leastFromStart 2 (Option.some Jvm.ClassFile.FieldType.int) ∈ lw_tbl := List.mem_append_right _ (List.mem_of_getElem? (i := 531) (by decide +kernel))
theorem kM_X0_59 : Cond.methodLink RX0 59 yX5_isInStart ∈ lw_tbl := List.mem_append_right _ (List.mem_of_getElem? (i := 532) (by decide +kernel))
theorem kI_yX5_isInStart : Cond.instanceMethod yX5_isInStart ∈ lw_tbl := List.mem_append_right _ (List.mem_of_getElem? (i := 533) (by decide +kernel))
theorem kS_yX5_isInStart : Cond.selects RX5 yX5_isInStart yX5_isInStart ∈ lw_tbl := List.mem_append_right _ (List.mem_of_getElem? (i := 534) (by decide +kernel))
theorem kC_yX5_isInStart : Cond.code yX5_isInStart cX5_isInStart 3 (Option.some Jvm.ClassFile.FieldType.boolean) ∈ lw_tbl := List.mem_append_right _ (List.mem_of_getElem? (i := 535) (by decide +kernel))
theorem kM_X5_57 : Cond.methodLink RX5 57 yX3_of ∈ lw_tbl := List.mem_append_right _ (List.mem_of_getElem? (i := 536) (by decide +kernel))
theorem kM_L_90 : Cond.methodLink "CrowdLawsLaw" 90 yX7_reach ∈ lw_tbl := List.mem_append_right _ (List.mem_of_getElem? (i := 537) (by decide +kernel))
theorem kI_yX7_reach : Cond.instanceMethod yX7_reach ∈ lw_tbl := List.mem_append_right _ (List.mem_of_getElem? (i := 538) (by decide +kernel))
theorem kS_yX7_reach : Cond.selects RX7 yX7_reach yX7_reach ∈ lw_tbl := List.mem_append_right _ (List.mem_of_getElem? (i := 539) (by decide +kernel))
theorem kC_yX7_reach : Cond.code yX7_reach cX7_reach 2 (Option.some Jvm.ClassFile.FieldType.int) ∈ lw_tbl := List.mem_append_right _ (List.mem_of_getElem? (i := 540) (by decide +kernel))
theorem kM_X7_168 : Cond.methodLink RX7 168 yX7_isWalkable ∈ lw_tbl := List.mem_append_right _ (List.mem_of_getElem? (i := 541) (by decide +kernel))
theorem kT_yX7_isWalkable : Cond.static yX7_isWalkable ∈ lw_tbl := List.mem_append_right _ (List.mem_of_getElem? (i := 542) (by decide +kernel))
theorem kC_yX7_isWalkable : Cond.code yX7_isWalkable cX7_isWalkable 1 (Option.some Jvm.ClassFile.FieldType.boolean) ∈ lw_tbl := List.mem_append_right _ (List.mem_of_getElem? (i := 543) (by decide +kernel))
theorem kM_X7_171 : Cond.methodLink RX7 171 yX4_walk ∈ lw_tbl := List.mem_append_right _ (List.mem_of_getElem? (i := 544) (by decide +kernel))
theorem kI_yX4_walk : Cond.instanceMethod yX4_walk ∈ lw_tbl := List.mem_append_right _ (List.mem_of_getElem? (i := 545) (by decide +kernel))
theorem kS_yX4_walk : Cond.selects RX4 yX4_walk yX4_walk ∈ lw_tbl := List.mem_append_right _ (List.mem_of_getElem? (i := 546) (by decide +kernel))
theorem kC_yX4_walk : Cond.code yX4_walk cX4_walk 2 (Option.none : Option Jvm.ClassFile.FieldType) ∈ lw_tbl := List.mem_append_right _ (List.mem_of_getElem? (i := 547) (by decide +kernel))
theorem kM_X4_64 : Cond.methodLink RX4 64 yX4_listCrowds ∈ lw_tbl := List.mem_append_right _ (List.mem_of_getElem? (i := 548) (by decide +kernel))
theorem kI_yX4_listCrowds : Cond.instanceMethod yX4_listCrowds ∈ lw_tbl := List.mem_append_right _ (List.mem_of_getElem? (i := 550) (by decide +kernel))
theorem kC_yX4_listCrowds : Cond.code yX4_listCrowds cX4_listCrowds 3 (Option.none : Option Jvm.ClassFile.FieldType) ∈ lw_tbl := List.mem_append_right _ (List.mem_of_getElem? (i := 551) (by decide +kernel))
theorem kM_X4_99 : Cond.methodLink RX4 99 yX3_clear ∈ lw_tbl := List.mem_append_right _ (List.mem_of_getElem? (i := 552) (by decide +kernel))
theorem kM_X4_107 : Cond.methodLink RX4 107 yX3_set ∈ lw_tbl := List.mem_append_right _ (List.mem_of_getElem? (i := 553) (by decide +kernel))
theorem kM_X4_111 : Cond.methodLink RX4 111 yX4_codeOf ∈ lw_tbl := List.mem_append_right _ (List.mem_of_getElem? (i := 554) (by decide +kernel))
theorem kI_yX4_codeOf : Cond.instanceMethod yX4_codeOf ∈ lw_tbl := List.mem_append_right _ (List.mem_of_getElem? (i := 556) (by decide +kernel))
theorem kC_yX4_codeOf : Cond.code yX4_codeOf cX4_codeOf 4 (Option.some Jvm.ClassFile.FieldType.int) ∈ lw_tbl := List.mem_append_right _ (List.mem_of_getElem? (i := 557) (by decide +kernel))
theorem kM_X4_90 : Cond.methodLink RX4 90 yX3_of ∈ lw_tbl := List.mem_append_right _ (List.mem_of_getElem? (i := 558) (by decide +kernel))
theorem kM_X4_115 : Cond.methodLink RX4 115 yX4_advance ∈ lw_tbl := List.mem_append_right _ (List.mem_of_getElem? (i := 559) (by decide +kernel))
theorem kI_yX4_advance : Cond.instanceMethod yX4_advance ∈ lw_tbl := List.mem_append_right _ (List.mem_of_getElem? (i := 561) (by decide +kernel))
theorem kC_yX4_advance : Cond.code yX4_advance cX4_advance 4 (Option.some Jvm.ClassFile.FieldType.boolean) ∈ lw_tbl := List.mem_append_right _ (List.mem_of_getElem? (i := 562) (by decide +kernel))
theorem kM_X4_119 : Cond.methodLink RX4 119 yX3_add ∈ lw_tbl := List.mem_append_right _ (List.mem_of_getElem? (i := 563) (by decide +kernel))
theorem kM_X4_68 : Cond.methodLink RX4 68 yX4_beginAtStart ∈ lw_tbl := List.mem_append_right _ (List.mem_of_getElem? (i := 564) (by decide +kernel))
theorem kI_yX4_beginAtStart : Cond.instanceMethod yX4_beginAtStart ∈ lw_tbl := List.mem_append_right _ (List.mem_of_getElem? (i := 566) (by decide +kernel))
theorem kC_yX4_beginAtStart : Cond.code yX4_beginAtStart cX4_beginAtStart 2 (Option.none : Option Jvm.ClassFile.FieldType) ∈ lw_tbl := List.mem_append_right _ (List.mem_of_getElem? (i := 567) (by decide +kernel))
theorem kM_X4_87 : Cond.methodLink RX4 87 yX4_decode ∈ lw_tbl := List.mem_append_right _ (List.mem_of_getElem? (i := 568) (by decide +kernel))
theorem kI_yX4_decode : Cond.instanceMethod yX4_decode ∈ lw_tbl := List.mem_append_right _ (List.mem_of_getElem? (i := 570) (by decide +kernel))
theorem kC_yX4_decode : Cond.code yX4_decode cX4_decode 4 (Option.none : Option Jvm.ClassFile.FieldType) ∈ lw_tbl := List.mem_append_right _ (List.mem_of_getElem? (i := 571) (by decide +kernel))
theorem kM_X4_126 : Cond.methodLink RX4 126 yX5_isInStart ∈ lw_tbl := List.mem_append_right _ (List.mem_of_getElem? (i := 572) (by decide +kernel))
theorem kM_X4_129 : Cond.methodLink RX4 129 yX4_come ∈ lw_tbl := List.mem_append_right _ (List.mem_of_getElem? (i := 573) (by decide +kernel))
theorem kI_yX4_come : Cond.instanceMethod yX4_come ∈ lw_tbl := List.mem_append_right _ (List.mem_of_getElem? (i := 575) (by decide +kernel))
theorem kC_yX4_come : Cond.code yX4_come cX4_come 3 (Option.none : Option Jvm.ClassFile.FieldType) ∈ lw_tbl := List.mem_append_right _ (List.mem_of_getElem? (i := 576) (by decide +kernel))
theorem kM_X4_122 : Cond.methodLink RX4 122 yX4_isPlace ∈ lw_tbl := List.mem_append_right _ (List.mem_of_getElem? (i := 577) (by decide +kernel))
theorem kI_yX4_isPlace : Cond.instanceMethod yX4_isPlace ∈ lw_tbl := List.mem_append_right _ (List.mem_of_getElem? (i := 579) (by decide +kernel))
theorem kC_yX4_isPlace : Cond.code yX4_isPlace cX4_isPlace 2 (Option.some Jvm.ClassFile.FieldType.boolean) ∈ lw_tbl := List.mem_append_right _ (List.mem_of_getElem? (i := 580) (by decide +kernel))
theorem kM_X4_71 : Cond.methodLink RX4 71 yX4_goOn ∈ lw_tbl := List.mem_append_right _ (List.mem_of_getElem? (i := 581) (by decide +kernel))
theorem kI_yX4_goOn : Cond.instanceMethod yX4_goOn ∈ lw_tbl := List.mem_append_right _ (List.mem_of_getElem? (i := 583) (by decide +kernel))
theorem kC_yX4_goOn : Cond.code yX4_goOn cX4_goOn 6 (Option.none : Option Jvm.ClassFile.FieldType) ∈ lw_tbl := List.mem_append_right _ (List.mem_of_getElem? (i := 584) (by decide +kernel))
theorem kM_X4_132 : Cond.methodLink RX4 132 yX4_levelOf ∈ lw_tbl := List.mem_append_right _ (List.mem_of_getElem? (i := 585) (by decide +kernel))
theorem kI_yX4_levelOf : Cond.instanceMethod yX4_levelOf ∈ lw_tbl := List.mem_append_right _ (List.mem_of_getElem? (i := 587) (by decide +kernel))
theorem kC_yX4_levelOf : Cond.code yX4_levelOf cX4_levelOf 2 (Option.some Jvm.ClassFile.FieldType.int) ∈ lw_tbl := List.mem_append_right _ (List.mem_of_getElem? (i := 588) (by decide +kernel))
theorem kM_X4_83 : Cond.methodLink RX4 83 yX4_codeAt ∈ lw_tbl := List.mem_append_right _ (List.mem_of_getElem? (i := 589) (by decide +kernel))
theorem kI_yX4_codeAt : Cond.instanceMethod yX4_codeAt ∈ lw_tbl := List.mem_append_right _ (List.mem_of_getElem? (i := 591) (by decide +kernel))
theorem kC_yX4_codeAt : Cond.code yX4_codeAt cX4_codeAt 2 (Option.some Jvm.ClassFile.FieldType.int) ∈ lw_tbl := List.mem_append_right _ (List.mem_of_getElem? (i := 592) (by decide +kernel))
theorem kM_X4_142 : Cond.methodLink RX4 142 yX6_fits ∈ lw_tbl := List.mem_append_right _ (List.mem_of_getElem? (i := 593) (by decide +kernel))
theorem kM_X4_147 : Cond.methodLink RX4 147 yX6_lead ∈ lw_tbl := List.mem_append_right _ (List.mem_of_getElem? (i := 594) (by decide +kernel))
theorem kM_X4_151 : Cond.methodLink RX4 151 yX4_placeOf ∈ lw_tbl := List.mem_append_right _ (List.mem_of_getElem? (i := 595) (by decide +kernel))
theorem kI_yX4_placeOf : Cond.instanceMethod yX4_placeOf ∈ lw_tbl := List.mem_append_right _ (List.mem_of_getElem? (i := 597) (by decide +kernel))
theorem kC_yX4_placeOf : Cond.code yX4_placeOf cX4_placeOf 5 (Option.some Jvm.ClassFile.FieldType.int) ∈ lw_tbl := List.mem_append_right _ (List.mem_of_getElem? (i := 598) (by decide +kernel))
theorem kM_X4_154 : Cond.methodLink RX4 154 yX2_set ∈ lw_tbl := List.mem_append_right _ (List.mem_of_getElem? (i := 599) (by decide +kernel))
theorem kM_X4_74 : Cond.methodLink RX4 74 yX4_findFewest ∈ lw_tbl := List.mem_append_right _ (List.mem_of_getElem? (i := 600) (by decide +kernel))
theorem kI_yX4_findFewest : Cond.instanceMethod yX4_findFewest ∈ lw_tbl := List.mem_append_right _ (List.mem_of_getElem? (i := 602) (by decide +kernel))
theorem kC_yX4_findFewest : Cond.code yX4_findFewest cX4_findFewest 2 (Option.none : Option Jvm.ClassFile.FieldType) ∈ lw_tbl := List.mem_append_right _ (List.mem_of_getElem? (i := 603) (by decide +kernel))
theorem kM_X4_157 : Cond.methodLink RX4 157 yX5_isBadCrowd ∈ lw_tbl := List.mem_append_right _ (List.mem_of_getElem? (i := 604) (by decide +kernel))
theorem kM_X4_77 : Cond.methodLink RX4 77 yX4_markLeading ∈ lw_tbl := List.mem_append_right _ (List.mem_of_getElem? (i := 605) (by decide +kernel))
theorem kI_yX4_markLeading : Cond.instanceMethod yX4_markLeading ∈ lw_tbl := List.mem_append_right _ (List.mem_of_getElem? (i := 607) (by decide +kernel))
theorem kC_yX4_markLeading : Cond.code yX4_markLeading cX4_markLeading 4 (Option.none : Option Jvm.ClassFile.FieldType) ∈ lw_tbl := List.mem_append_right _ (List.mem_of_getElem? (i := 608) (by decide +kernel))
theorem kM_X4_160 : Cond.methodLink RX4 160 yX4_firstLeading ∈ lw_tbl := List.mem_append_right _ (List.mem_of_getElem? (i := 609) (by decide +kernel))
theorem kI_yX4_firstLeading : Cond.instanceMethod yX4_firstLeading ∈ lw_tbl := List.mem_append_right _ (List.mem_of_getElem? (i := 611) (by decide +kernel))
theorem kC_yX4_firstLeading : Cond.code yX4_firstLeading cX4_firstLeading 6 (Option.some Jvm.ClassFile.FieldType.int) ∈ lw_tbl := List.mem_append_right _ (List.mem_of_getElem? (i := 612) (by decide +kernel))
theorem kM_X4_163 : Cond.methodLink RX4 163 yX2_of ∈ lw_tbl := List.mem_append_right _ (List.mem_of_getElem? (i := 613) (by decide +kernel))
theorem kM_X4_80 : Cond.methodLink RX4 80 yX4_choosePath ∈ lw_tbl := List.mem_append_right _ (List.mem_of_getElem? (i := 614) (by decide +kernel))
theorem kI_yX4_choosePath : Cond.instanceMethod yX4_choosePath ∈ lw_tbl := List.mem_append_right _ (List.mem_of_getElem? (i := 616) (by decide +kernel))
theorem kC_yX4_choosePath : Cond.code yX4_choosePath cX4_choosePath 3 (Option.none : Option Jvm.ClassFile.FieldType) ∈ lw_tbl := List.mem_append_right _ (List.mem_of_getElem? (i := 617) (by decide +kernel))
theorem kM_L_94 : Cond.methodLink "CrowdLawsLaw" 94 yX7_steps ∈ lw_tbl := List.mem_append_right _ (List.mem_of_getElem? (i := 618) (by decide +kernel))
theorem kI_yX7_steps : Cond.instanceMethod yX7_steps ∈ lw_tbl := List.mem_append_right _ (List.mem_of_getElem? (i := 619) (by decide +kernel))
theorem kS_yX7_steps : Cond.selects RX7 yX7_steps yX7_steps ∈ lw_tbl := List.mem_append_right _ (List.mem_of_getElem? (i := 620) (by decide +kernel))
theorem kC_yX7_steps : Cond.code yX7_steps cX7_steps 2 (Option.some Jvm.ClassFile.FieldType.int) ∈ lw_tbl := List.mem_append_right _ (List.mem_of_getElem? (i := 621) (by decide +kernel))
theorem kM_L_98 : Cond.methodLink "CrowdLawsLaw" 98 yX7_run ∈ lw_tbl := List.mem_append_right _ (List.mem_of_getElem? (i := 622) (by decide +kernel))
theorem kI_yX7_run : Cond.instanceMethod yX7_run ∈ lw_tbl := List.mem_append_right _ (List.mem_of_getElem? (i := 623) (by decide +kernel))
theorem kS_yX7_run : Cond.selects RX7 yX7_run yX7_run ∈ lw_tbl := List.mem_append_right _ (List.mem_of_getElem? (i := 624) (by decide +kernel))
theorem kC_yX7_run : Cond.code yX7_run cX7_run 4 (Option.some Jvm.ClassFile.FieldType.int) ∈ lw_tbl := List.mem_append_right _ (List.mem_of_getElem? (i := 625) (by decide +kernel))
theorem kM_X7_180 : Cond.methodLink RX7 180 yX4_onPath ∈ lw_tbl := List.mem_append_right _ (List.mem_of_getElem? (i := 626) (by decide +kernel))
theorem kI_yX4_onPath : Cond.instanceMethod yX4_onPath ∈ lw_tbl := List.mem_append_right _ (List.mem_of_getElem? (i := 627) (by decide +kernel))
theorem kS_yX4_onPath : Cond.selects RX4 yX4_onPath yX4_onPath ∈ lw_tbl := List.mem_append_right _ (List.mem_of_getElem? (i := 628) (by decide +kernel))
theorem kC_yX4_onPath : Cond.code yX4_onPath cX4_onPath 3 (Option.some Jvm.ClassFile.FieldType.int) ∈ lw_tbl := List.mem_append_right _ (List.mem_of_getElem? (i := 629) (by decide +kernel))
theorem kM_L_102 : Cond.methodLink "CrowdLawsLaw" 102 yX7_doomedOf ∈ lw_tbl := List.mem_append_right _ (List.mem_of_getElem? (i := 630) (by decide +kernel))
theorem kI_yX7_doomedOf : Cond.instanceMethod yX7_doomedOf ∈ lw_tbl := List.mem_append_right _ (List.mem_of_getElem? (i := 631) (by decide +kernel))
theorem kS_yX7_doomedOf : Cond.selects RX7 yX7_doomedOf yX7_doomedOf ∈ lw_tbl := List.mem_append_right _ (List.mem_of_getElem? (i := 632) (by decide +kernel))
theorem kC_yX7_doomedOf : Cond.code yX7_doomedOf cX7_doomedOf 2 (Option.some Jvm.ClassFile.FieldType.int) ∈ lw_tbl := List.mem_append_right _ (List.mem_of_getElem? (i := 633) (by decide +kernel))
theorem kM_X7_184 : Cond.methodLink RX7 184 yX4_countDoomed ∈ lw_tbl := List.mem_append_right _ (List.mem_of_getElem? (i := 634) (by decide +kernel))
theorem kI_yX4_countDoomed : Cond.instanceMethod yX4_countDoomed ∈ lw_tbl := List.mem_append_right _ (List.mem_of_getElem? (i := 635) (by decide +kernel))
theorem kS_yX4_countDoomed : Cond.selects RX4 yX4_countDoomed yX4_countDoomed ∈ lw_tbl := List.mem_append_right _ (List.mem_of_getElem? (i := 636) (by decide +kernel))
theorem kC_yX4_countDoomed : Cond.code yX4_countDoomed cX4_countDoomed 4 (Option.some Jvm.ClassFile.FieldType.int) ∈ lw_tbl := List.mem_append_right _ (List.mem_of_getElem? (i := 637) (by decide +kernel))
theorem kM_X4_93 : Cond.methodLink RX4 93 yX0_dooms ∈ lw_tbl := List.mem_append_right _ (List.mem_of_getElem? (i := 638) (by decide +kernel))
theorem kM_L_106 : Cond.methodLink "CrowdLawsLaw" 106 yX7_total ∈ lw_tbl := List.mem_append_right _ (List.mem_of_getElem? (i := 639) (by decide +kernel))
theorem kI_yX7_total : Cond.instanceMethod yX7_total ∈ lw_tbl := List.mem_append_right _ (List.mem_of_getElem? (i := 640) (by decide +kernel))
theorem kS_yX7_total : Cond.selects RX7 yX7_total yX7_total ∈ lw_tbl := List.mem_append_right _ (List.mem_of_getElem? (i := 641) (by decide +kernel))
theorem kC_yX7_total : Cond.code yX7_total cX7_total 2 (Option.some Jvm.ClassFile.FieldType.int) ∈ lw_tbl := List.mem_append_right _ (List.mem_of_getElem? (i := 642) (by decide +kernel))
theorem kL_L_10 : Cond.classLink "CrowdLawsLaw" 10 RX8 ∈ lw_tbl := List.mem_append_right _ (List.mem_of_getElem? (i := 643) (by decide +kernel))
theorem kB_X8 : Cond.instantiable RX8 28 ∈ lw_tbl := List.mem_append_right _ (List.mem_of_getElem? (i := 644) (by decide +kernel))
theorem kM_L_12 : Cond.methodLink "CrowdLawsLaw" 12 yX8_init ∈ lw_tbl := List.mem_append_right _ (List.mem_of_getElem? (i := 645) (by decide +kernel))
theorem kI_yX8_init : Cond.instanceMethod yX8_init ∈ lw_tbl := List.mem_append_right _ (List.mem_of_getElem? (i := 646) (by decide +kernel))
theorem kC_yX8_init : Cond.code yX8_init cX8_init 1 (Option.none : Option Jvm.ClassFile.FieldType) ∈ lw_tbl := List.mem_append_right _ (List.mem_of_getElem? (i := 647) (by decide +kernel))
theorem kM_X8_1 : Cond.methodLink RX8 1 objectInit ∈ lw_tbl := List.mem_append_right _ (List.mem_of_getElem? (i := 648) (by decide +kernel))
theorem kK_X8_62 : Cond.constant RX8 62 (59049 : Int32) ∈ lw_tbl := List.mem_append_right _ (List.mem_of_getElem? (i := 649) (by decide +kernel))
theorem kF_X8_73 : Cond.fieldLink RX8 73 "CrowdLawsModel" "thrown" "I" ∈ lw_tbl := List.mem_append_right _ (List.mem_of_getElem? (i := 650) (by decide +kernel))
theorem kF_X8_7 : Cond.fieldLink RX8 7 "CrowdLawsModel" "states" "I" ∈ lw_tbl := List.mem_append_right _ (List.mem_of_getElem? (i := 651) (by decide +kernel))
theorem kF_X8_13 : Cond.fieldLink RX8 13 "CrowdLawsModel" "start" "I" ∈ lw_tbl := List.mem_append_right _ (List.mem_of_getElem? (i := 652) (by decide +kernel))
theorem kF_X8_80 : Cond.fieldLink RX8 80 "CrowdLawsModel" "rules" "I" ∈ lw_tbl := List.mem_append_right _ (List.mem_of_getElem? (i := 653) (by decide +kernel))
theorem kF_X8_16 : Cond.fieldLink RX8 16 "CrowdLawsModel" "sort" "[I" ∈ lw_tbl := List.mem_append_right _ (List.mem_of_getElem? (i := 654) (by decide +kernel))
theorem kF_X8_20 : Cond.fieldLink RX8 20 "CrowdLawsModel" "p" "[I" ∈ lw_tbl := List.mem_append_right _ (List.mem_of_getElem? (i := 655) (by decide +kernel))
theorem kF_X8_23 : Cond.fieldLink RX8 23 "CrowdLawsModel" "q" "[I" ∈ lw_tbl := List.mem_append_right _ (List.mem_of_getElem? (i := 656) (by decide +kernel))
theorem kF_X8_26 : Cond.fieldLink RX8 26 "CrowdLawsModel" "r" "[I" ∈ lw_tbl := List.mem_append_right _ (List.mem_of_getElem? (i := 657) (by decide +kernel))
theorem kF_X8_29 : Cond.fieldLink RX8 29 "CrowdLawsModel" "t" "[I" ∈ lw_tbl := List.mem_append_right _ (List.mem_of_getElem? (i := 658) (by decide +kernel))
theorem kF_X8_32 : Cond.fieldLink RX8 32 "CrowdLawsModel" "map" "[I" ∈ lw_tbl := List.mem_append_right _ (List.mem_of_getElem? (i := 659) (by decide +kernel))
theorem kF_X8_35 : Cond.fieldLink RX8 35 "CrowdLawsModel" "need" "[I" ∈ lw_tbl := List.mem_append_right _ (List.mem_of_getElem? (i := 660) (by decide +kernel))
theorem kF_X8_85 : Cond.fieldLink RX8 85 "CrowdLawsModel" "bads" "I" ∈ lw_tbl := List.mem_append_right _ (List.mem_of_getElem? (i := 661) (by decide +kernel))
theorem kF_X8_38 : Cond.fieldLink RX8 38 "CrowdLawsModel" "bad" "[I" ∈ lw_tbl := List.mem_append_right _ (List.mem_of_getElem? (i := 662) (by decide +kernel))
theorem kF_X8_41 : Cond.fieldLink RX8 41 "CrowdLawsModel" "hand" "[I" ∈ lw_tbl := List.mem_append_right _ (List.mem_of_getElem? (i := 663) (by decide +kernel))
theorem kF_X8_88 : Cond.fieldLink RX8 88 "CrowdLawsModel" "isSearched" "Z" ∈ lw_tbl := List.mem_append_right _ (List.mem_of_getElem? (i := 664) (by decide +kernel))
theorem kF_X8_135 : Cond.fieldLink RX8 135 "CrowdLawsModel" "isSpent" "Z" ∈ lw_tbl := List.mem_append_right _ (List.mem_of_getElem? (i := 665) (by decide +kernel))
theorem kF_X8_128 : Cond.fieldLink RX8 128 "CrowdLawsModel" "bases" "I" ∈ lw_tbl := List.mem_append_right _ (List.mem_of_getElem? (i := 666) (by decide +kernel))
theorem kF_X8_44 : Cond.fieldLink RX8 44 "CrowdLawsModel" "base" "[I" ∈ lw_tbl := List.mem_append_right _ (List.mem_of_getElem? (i := 667) (by decide +kernel))
theorem kF_X8_145 : Cond.fieldLink RX8 145 "CrowdLawsModel" "news" "I" ∈ lw_tbl := List.mem_append_right _ (List.mem_of_getElem? (i := 668) (by decide +kernel))
theorem kF_X8_47 : Cond.fieldLink RX8 47 "CrowdLawsModel" "next" "[I" ∈ lw_tbl := List.mem_append_right _ (List.mem_of_getElem? (i := 669) (by decide +kernel))
theorem kF_X8_50 : Cond.fieldLink RX8 50 "CrowdLawsModel" "one" "[I" ∈ lw_tbl := List.mem_append_right _ (List.mem_of_getElem? (i := 670) (by decide +kernel))
theorem kF_X8_53 : Cond.fieldLink RX8 53 "CrowdLawsModel" "rest" "[I" ∈ lw_tbl := List.mem_append_right _ (List.mem_of_getElem? (i := 671) (by decide +kernel))
theorem kF_X8_56 : Cond.fieldLink RX8 56 "CrowdLawsModel" "after" "[I" ∈ lw_tbl := List.mem_append_right _ (List.mem_of_getElem? (i := 672) (by decide +kernel))
theorem kF_X8_185 : Cond.fieldLink RX8 185 "CrowdLawsModel" "crowds" "I" ∈ lw_tbl := List.mem_append_right _ (List.mem_of_getElem? (i := 673) (by decide +kernel))
theorem kF_X8_59 : Cond.fieldLink RX8 59 "CrowdLawsModel" "code" "[I" ∈ lw_tbl := List.mem_append_right _ (List.mem_of_getElem? (i := 674) (by decide +kernel))
theorem kF_X8_63 : Cond.fieldLink RX8 63 "CrowdLawsModel" "place" "[I" ∈ lw_tbl := List.mem_append_right _ (List.mem_of_getElem? (i := 675) (by decide +kernel))
theorem kF_X8_66 : Cond.fieldLink RX8 66 "CrowdLawsModel" "far" "[I" ∈ lw_tbl := List.mem_append_right _ (List.mem_of_getElem? (i := 676) (by decide +kernel))
theorem kF_X8_69 : Cond.fieldLink RX8 69 "CrowdLawsModel" "comes" "[Z" ∈ lw_tbl := List.mem_append_right _ (List.mem_of_getElem? (i := 677) (by decide +kernel))
theorem kM_L_17 : Cond.methodLink "CrowdLawsLaw" 17 yX8_states ∈ lw_tbl := List.mem_append_right _ (List.mem_of_getElem? (i := 735) (by decide +kernel))
theorem kI_yX8_states : Cond.instanceMethod yX8_states ∈ lw_tbl := List.mem_append_right _ (List.mem_of_getElem? (i := 736) (by decide +kernel))
theorem kS_yX8_states : Cond.selects RX8 yX8_states yX8_states ∈ lw_tbl := List.mem_append_right _ (List.mem_of_getElem? (i := 737) (by decide +kernel))
theorem kC_yX8_states : Cond.code yX8_states cX8_states 4 (Option.some Jvm.ClassFile.FieldType.int) ∈ lw_tbl := List.mem_append_right _ (List.mem_of_getElem? (i := 738) (by decide +kernel))
theorem kK_X8_83 : Cond.constantLong RX8 83 (5 : Int64) ∈ lw_tbl := List.mem_append_right _ (List.mem_of_getElem? (i := 739) (by decide +kernel))
theorem kM_X8_76 : Cond.methodLink RX8 76 yX8_in ∈ lw_tbl := List.mem_append_right _ (List.mem_of_getElem? (i := 740) (by decide +kernel))
theorem kT_yX8_in : Cond.static yX8_in ∈ lw_tbl := List.mem_append_right _ (List.mem_of_getElem? (i := 741) (by decide +kernel))
theorem kC_yX8_in : Cond.code yX8_in cX8_in 6 (Option.some Jvm.ClassFile.FieldType.boolean) ∈ lw_tbl := List.mem_append_right _ (List.mem_of_getElem? (i := 742) (by decide +kernel))
theorem kM_L_21 : Cond.methodLink "CrowdLawsLaw" 21 yX8_start ∈ lw_tbl := List.mem_append_right _ (List.mem_of_getElem? (i := 743) (by decide +kernel))
theorem kI_yX8_start : Cond.instanceMethod yX8_start ∈ lw_tbl := List.mem_append_right _ (List.mem_of_getElem? (i := 744) (by decide +kernel))
theorem kS_yX8_start : Cond.selects RX8 yX8_start yX8_start ∈ lw_tbl := List.mem_append_right _ (List.mem_of_getElem? (i := 745) (by decide +kernel))
theorem kC_yX8_start : Cond.code yX8_start cX8_start 3 (Option.some Jvm.ClassFile.FieldType.int) ∈ lw_tbl := List.mem_append_right _ (List.mem_of_getElem? (i := 746) (by decide +kernel))
theorem kM_L_26 : Cond.methodLink "CrowdLawsLaw" 26 yX8_alone ∈ lw_tbl := List.mem_append_right _ (List.mem_of_getElem? (i := 747) (by decide +kernel))
theorem kI_yX8_alone : Cond.instanceMethod yX8_alone ∈ lw_tbl := List.mem_append_right _ (List.mem_of_getElem? (i := 748) (by decide +kernel))
theorem kS_yX8_alone : Cond.selects RX8 yX8_alone yX8_alone ∈ lw_tbl := List.mem_append_right _ (List.mem_of_getElem? (i := 749) (by decide +kernel))
theorem kC_yX8_alone : Cond.code yX8_alone cX8_alone 3 (Option.some Jvm.ClassFile.FieldType.int) ∈ lw_tbl := List.mem_append_right _ (List.mem_of_getElem? (i := 750) (by decide +kernel))
theorem kM_X8_92 : Cond.methodLink RX8 92 yX8_noState ∈ lw_tbl := List.mem_append_right _ (List.mem_of_getElem? (i := 751) (by decide +kernel))
theorem kI_yX8_noState : Cond.instanceMethod yX8_noState ∈ lw_tbl := List.mem_append_right _ (List.mem_of_getElem? (i := 753) (by decide +kernel))
theorem kC_yX8_noState : Cond.code yX8_noState cX8_noState 2 (Option.some Jvm.ClassFile.FieldType.boolean) ∈ lw_tbl := List.mem_append_right _ (List.mem_of_getElem? (i := 754) (by decide +kernel))
theorem kM_X8_96 : Cond.methodLink RX8 96 yX8_newRule ∈ lw_tbl := List.mem_append_right _ (List.mem_of_getElem? (i := 755) (by decide +kernel))
theorem kI_yX8_newRule : Cond.instanceMethod yX8_newRule ∈ lw_tbl := List.mem_append_right _ (List.mem_of_getElem? (i := 757) (by decide +kernel))
theorem kC_yX8_newRule : Cond.code yX8_newRule cX8_newRule 7 (Option.some Jvm.ClassFile.FieldType.int) ∈ lw_tbl := List.mem_append_right _ (List.mem_of_getElem? (i := 758) (by decide +kernel))
theorem kM_L_31 : Cond.methodLink "CrowdLawsLaw" 31 yX8_pair ∈ lw_tbl := List.mem_append_right _ (List.mem_of_getElem? (i := 759) (by decide +kernel))
theorem kI_yX8_pair : Cond.instanceMethod yX8_pair ∈ lw_tbl := List.mem_append_right _ (List.mem_of_getElem? (i := 760) (by decide +kernel))
theorem kS_yX8_pair : Cond.selects RX8 yX8_pair yX8_pair ∈ lw_tbl := List.mem_append_right _ (List.mem_of_getElem? (i := 761) (by decide +kernel))
theorem kC_yX8_pair : Cond.code yX8_pair cX8_pair 5 (Option.some Jvm.ClassFile.FieldType.int) ∈ lw_tbl := List.mem_append_right _ (List.mem_of_getElem? (i := 762) (by decide +kernel))
theorem kM_L_36 : Cond.methodLink "CrowdLawsLaw" 36 yX8_all ∈ lw_tbl := List.mem_append_right _ (List.mem_of_getElem? (i := 763) (by decide +kernel))
theorem kI_yX8_all : Cond.instanceMethod yX8_all ∈ lw_tbl := List.mem_append_right _ (List.mem_of_getElem? (i := 764) (by decide +kernel))
theorem kS_yX8_all : Cond.selects RX8 yX8_all yX8_all ∈ lw_tbl := List.mem_append_right _ (List.mem_of_getElem? (i := 765) (by decide +kernel))
theorem kC_yX8_all : Cond.code yX8_all cX8_all 7 (Option.some Jvm.ClassFile.FieldType.int) ∈ lw_tbl := List.mem_append_right _ (List.mem_of_getElem? (i := 766) (by decide +kernel))
theorem kM_X8_100 : Cond.methodLink RX8 100 yX8_isShort ∈ lw_tbl := List.mem_append_right _ (List.mem_of_getElem? (i := 767) (by decide +kernel))
theorem kI_yX8_isShort : Cond.instanceMethod yX8_isShort ∈ lw_tbl := List.mem_append_right _ (List.mem_of_getElem? (i := 769) (by decide +kernel))
theorem kC_yX8_isShort : Cond.code yX8_isShort cX8_isShort 4 (Option.some Jvm.ClassFile.FieldType.boolean) ∈ lw_tbl := List.mem_append_right _ (List.mem_of_getElem? (i := 770) (by decide +kernel))
theorem kM_L_40 : Cond.methodLink "CrowdLawsLaw" 40 yX8_need ∈ lw_tbl := List.mem_append_right _ (List.mem_of_getElem? (i := 771) (by decide +kernel))
theorem kI_yX8_need : Cond.instanceMethod yX8_need ∈ lw_tbl := List.mem_append_right _ (List.mem_of_getElem? (i := 772) (by decide +kernel))
theorem kS_yX8_need : Cond.selects RX8 yX8_need yX8_need ∈ lw_tbl := List.mem_append_right _ (List.mem_of_getElem? (i := 773) (by decide +kernel))
theorem kC_yX8_need : Cond.code yX8_need cX8_need 4 (Option.some Jvm.ClassFile.FieldType.int) ∈ lw_tbl := List.mem_append_right _ (List.mem_of_getElem? (i := 774) (by decide +kernel))
theorem kM_X8_103 : Cond.methodLink RX8 103 yX8_noRule ∈ lw_tbl := List.mem_append_right _ (List.mem_of_getElem? (i := 775) (by decide +kernel))
theorem kI_yX8_noRule : Cond.instanceMethod yX8_noRule ∈ lw_tbl := List.mem_append_right _ (List.mem_of_getElem? (i := 777) (by decide +kernel))
theorem kC_yX8_noRule : Cond.code yX8_noRule cX8_noRule 2 (Option.some Jvm.ClassFile.FieldType.boolean) ∈ lw_tbl := List.mem_append_right _ (List.mem_of_getElem? (i := 778) (by decide +kernel))
theorem kM_L_44 : Cond.methodLink "CrowdLawsLaw" 44 yX8_rule ∈ lw_tbl := List.mem_append_right _ (List.mem_of_getElem? (i := 779) (by decide +kernel))
theorem kI_yX8_rule : Cond.instanceMethod yX8_rule ∈ lw_tbl := List.mem_append_right _ (List.mem_of_getElem? (i := 780) (by decide +kernel))
theorem kS_yX8_rule : Cond.selects RX8 yX8_rule yX8_rule ∈ lw_tbl := List.mem_append_right _ (List.mem_of_getElem? (i := 781) (by decide +kernel))
theorem kC_yX8_rule : Cond.code yX8_rule cX8_rule 3 (Option.some Jvm.ClassFile.FieldType.int) ∈ lw_tbl := List.mem_append_right _ (List.mem_of_getElem? (i := 782) (by decide +kernel))
theorem kM_L_48 : Cond.methodLink "CrowdLawsLaw" 48 yX8_bad ∈ lw_tbl := List.mem_append_right _ (List.mem_of_getElem? (i := 783) (by decide +kernel))
theorem kI_yX8_bad : Cond.instanceMethod yX8_bad ∈ lw_tbl := List.mem_append_right _ (List.mem_of_getElem? (i := 784) (by decide +kernel))
theorem kS_yX8_bad : Cond.selects RX8 yX8_bad yX8_bad ∈ lw_tbl := List.mem_append_right _ (List.mem_of_getElem? (i := 785) (by decide +kernel))
theorem kC_yX8_bad : Cond.code yX8_bad cX8_bad 4 (Option.some Jvm.ClassFile.FieldType.int) ∈ lw_tbl := List.mem_append_right _ (List.mem_of_getElem? (i := 786) (by decide +kernel))
theorem kM_L_52 : Cond.methodLink "CrowdLawsLaw" 52 yX8_put ∈ lw_tbl := List.mem_append_right _ (List.mem_of_getElem? (i := 787) (by decide +kernel))
theorem kI_yX8_put : Cond.instanceMethod yX8_put ∈ lw_tbl := List.mem_append_right _ (List.mem_of_getElem? (i := 788) (by decide +kernel))
theorem kS_yX8_put : Cond.selects RX8 yX8_put yX8_put ∈ lw_tbl := List.mem_append_right _ (List.mem_of_getElem? (i := 789) (by decide +kernel))
theorem kC_yX8_put : Cond.code yX8_put cX8_put 4 (Option.some Jvm.ClassFile.FieldType.int) ∈ lw_tbl := List.mem_append_right _ (List.mem_of_getElem? (i := 790) (by decide +kernel))
theorem kK_X8_114 : Cond.constantLong RX8 114 (50 : Int64) ∈ lw_tbl := List.mem_append_right _ (List.mem_of_getElem? (i := 791) (by decide +kernel))
theorem kM_X8_116 : Cond.methodLink RX8 116 yX8_sum ∈ lw_tbl := List.mem_append_right _ (List.mem_of_getElem? (i := 792) (by decide +kernel))
theorem kT_yX8_sum : Cond.static yX8_sum ∈ lw_tbl := List.mem_append_right _ (List.mem_of_getElem? (i := 793) (by decide +kernel))
theorem kC_yX8_sum : Cond.code yX8_sum cX8_sum 2 (Option.some Jvm.ClassFile.FieldType.int) ∈ lw_tbl := List.mem_append_right _ (List.mem_of_getElem? (i := 794) (by decide +kernel))
theorem kM_L_56 : Cond.methodLink "CrowdLawsLaw" 56 yX8_at ∈ lw_tbl := List.mem_append_right _ (List.mem_of_getElem? (i := 795) (by decide +kernel))
theorem kI_yX8_at : Cond.instanceMethod yX8_at ∈ lw_tbl := List.mem_append_right _ (List.mem_of_getElem? (i := 796) (by decide +kernel))
theorem kS_yX8_at : Cond.selects RX8 yX8_at yX8_at ∈ lw_tbl := List.mem_append_right _ (List.mem_of_getElem? (i := 797) (by decide +kernel))
theorem kC_yX8_at : Cond.code yX8_at cX8_at 2 (Option.some Jvm.ClassFile.FieldType.int) ∈ lw_tbl := List.mem_append_right _ (List.mem_of_getElem? (i := 798) (by decide +kernel))
theorem kM_L_60 : Cond.methodLink "CrowdLawsLaw" 60 yX8_can ∈ lw_tbl := List.mem_append_right _ (List.mem_of_getElem? (i := 799) (by decide +kernel))
theorem kI_yX8_can : Cond.instanceMethod yX8_can ∈ lw_tbl := List.mem_append_right _ (List.mem_of_getElem? (i := 800) (by decide +kernel))
theorem kS_yX8_can : Cond.selects RX8 yX8_can yX8_can ∈ lw_tbl := List.mem_append_right _ (List.mem_of_getElem? (i := 801) (by decide +kernel))
theorem kC_yX8_can : Cond.code yX8_can cX8_can 2 (Option.some Jvm.ClassFile.FieldType.int) ∈ lw_tbl := List.mem_append_right _ (List.mem_of_getElem? (i := 802) (by decide +kernel))
theorem kM_X8_106 : Cond.methodLink RX8 106 yX8_leaves ∈ lw_tbl := List.mem_append_right _ (List.mem_of_getElem? (i := 803) (by decide +kernel))
theorem kI_yX8_leaves : Cond.instanceMethod yX8_leaves ∈ lw_tbl := List.mem_append_right _ (List.mem_of_getElem? (i := 805) (by decide +kernel))
theorem kC_yX8_leaves : Cond.code yX8_leaves cX8_leaves 5 (Option.some Jvm.ClassFile.FieldType.boolean) ∈ lw_tbl := List.mem_append_right _ (List.mem_of_getElem? (i := 806) (by decide +kernel))
theorem kM_L_64 : Cond.methodLink "CrowdLawsLaw" 64 yX8_step ∈ lw_tbl := List.mem_append_right _ (List.mem_of_getElem? (i := 807) (by decide +kernel))
theorem kI_yX8_step : Cond.instanceMethod yX8_step ∈ lw_tbl := List.mem_append_right _ (List.mem_of_getElem? (i := 808) (by decide +kernel))
theorem kS_yX8_step : Cond.selects RX8 yX8_step yX8_step ∈ lw_tbl := List.mem_append_right _ (List.mem_of_getElem? (i := 809) (by decide +kernel))
theorem kC_yX8_step : Cond.code yX8_step cX8_step 4 (Option.some Jvm.ClassFile.FieldType.int) ∈ lw_tbl := List.mem_append_right _ (List.mem_of_getElem? (i := 810) (by decide +kernel))
theorem kM_X8_120 : Cond.methodLink RX8 120 yX8_goBy ∈ lw_tbl := List.mem_append_right _ (List.mem_of_getElem? (i := 811) (by decide +kernel))
theorem kI_yX8_goBy : Cond.instanceMethod yX8_goBy ∈ lw_tbl := List.mem_append_right _ (List.mem_of_getElem? (i := 813) (by decide +kernel))
theorem kC_yX8_goBy : Cond.code yX8_goBy cX8_goBy 5 (Option.none : Option Jvm.ClassFile.FieldType) ∈ lw_tbl := List.mem_append_right _ (List.mem_of_getElem? (i := 814) (by decide +kernel))
theorem kM_X8_110 : Cond.methodLink RX8 110 yX8_mapped ∈ lw_tbl := List.mem_append_right _ (List.mem_of_getElem? (i := 815) (by decide +kernel))
theorem kI_yX8_mapped : Cond.instanceMethod yX8_mapped ∈ lw_tbl := List.mem_append_right _ (List.mem_of_getElem? (i := 817) (by decide +kernel))
theorem kC_yX8_mapped : Cond.code yX8_mapped cX8_mapped 5 (Option.some Jvm.ClassFile.FieldType.int) ∈ lw_tbl := List.mem_append_right _ (List.mem_of_getElem? (i := 818) (by decide +kernel))
theorem kM_L_69 : Cond.methodLink "CrowdLawsLaw" 69 yX8_isBad ∈ lw_tbl := List.mem_append_right _ (List.mem_of_getElem? (i := 819) (by decide +kernel))
theorem kI_yX8_isBad : Cond.instanceMethod yX8_isBad ∈ lw_tbl := List.mem_append_right _ (List.mem_of_getElem? (i := 820) (by decide +kernel))
theorem kS_yX8_isBad : Cond.selects RX8 yX8_isBad yX8_isBad ∈ lw_tbl := List.mem_append_right _ (List.mem_of_getElem? (i := 821) (by decide +kernel))
theorem kC_yX8_isBad : Cond.code yX8_isBad cX8_isBad 1 (Option.some Jvm.ClassFile.FieldType.int) ∈ lw_tbl := List.mem_append_right _ (List.mem_of_getElem? (i := 822) (by decide +kernel))
theorem kM_X8_124 : Cond.methodLink RX8 124 yX8_isBadOne ∈ lw_tbl := List.mem_append_right _ (List.mem_of_getElem? (i := 823) (by decide +kernel))
theorem kI_yX8_isBadOne : Cond.instanceMethod yX8_isBadOne ∈ lw_tbl := List.mem_append_right _ (List.mem_of_getElem? (i := 825) (by decide +kernel))
theorem kC_yX8_isBadOne : Cond.code yX8_isBadOne cX8_isBadOne 6 (Option.some Jvm.ClassFile.FieldType.boolean) ∈ lw_tbl := List.mem_append_right _ (List.mem_of_getElem? (i := 826) (by decide +kernel))
theorem kM_L_73 : Cond.methodLink "CrowdLawsLaw" 73 yX8_doomed ∈ lw_tbl := List.mem_append_right _ (List.mem_of_getElem? (i := 827) (by decide +kernel))
theorem kI_yX8_doomed : Cond.instanceMethod yX8_doomed ∈ lw_tbl := List.mem_append_right _ (List.mem_of_getElem? (i := 828) (by decide +kernel))
theorem kS_yX8_doomed : Cond.selects RX8 yX8_doomed yX8_doomed ∈ lw_tbl := List.mem_append_right _ (List.mem_of_getElem? (i := 829) (by decide +kernel))
theorem kC_yX8_doomed : Cond.code yX8_doomed cX8_doomed 1 (Option.some Jvm.ClassFile.FieldType.int) ∈ lw_tbl := List.mem_append_right _ (List.mem_of_getElem? (i := 830) (by decide +kernel))
theorem kM_X8_138 : Cond.methodLink RX8 138 yX8_noSearch ∈ lw_tbl := List.mem_append_right _ (List.mem_of_getElem? (i := 831) (by decide +kernel))
theorem kI_yX8_noSearch : Cond.instanceMethod yX8_noSearch ∈ lw_tbl := List.mem_append_right _ (List.mem_of_getElem? (i := 833) (by decide +kernel))
theorem kC_yX8_noSearch : Cond.code yX8_noSearch cX8_noSearch 1 (Option.some Jvm.ClassFile.FieldType.int) ∈ lw_tbl := List.mem_append_right _ (List.mem_of_getElem? (i := 834) (by decide +kernel))
theorem kM_X8_142 : Cond.methodLink RX8 142 yX8_isDoomed ∈ lw_tbl := List.mem_append_right _ (List.mem_of_getElem? (i := 835) (by decide +kernel))
theorem kI_yX8_isDoomed : Cond.instanceMethod yX8_isDoomed ∈ lw_tbl := List.mem_append_right _ (List.mem_of_getElem? (i := 837) (by decide +kernel))
theorem kC_yX8_isDoomed : Cond.code yX8_isDoomed cX8_isDoomed 4 (Option.some Jvm.ClassFile.FieldType.boolean) ∈ lw_tbl := List.mem_append_right _ (List.mem_of_getElem? (i := 838) (by decide +kernel))
theorem kM_X8_131 : Cond.methodLink RX8 131 yX8_isOver ∈ lw_tbl := List.mem_append_right _ (List.mem_of_getElem? (i := 839) (by decide +kernel))
theorem kT_yX8_isOver : Cond.static yX8_isOver ∈ lw_tbl := List.mem_append_right _ (List.mem_of_getElem? (i := 840) (by decide +kernel))
theorem kC_yX8_isOver : Cond.code yX8_isOver cX8_isOver 5 (Option.some Jvm.ClassFile.FieldType.boolean) ∈ lw_tbl := List.mem_append_right _ (List.mem_of_getElem? (i := 841) (by decide +kernel))
theorem kM_L_77 : Cond.methodLink "CrowdLawsLaw" 77 yX8_search ∈ lw_tbl := List.mem_append_right _ (List.mem_of_getElem? (i := 842) (by decide +kernel))
theorem kI_yX8_search : Cond.instanceMethod yX8_search ∈ lw_tbl := List.mem_append_right _ (List.mem_of_getElem? (i := 843) (by decide +kernel))
theorem kS_yX8_search : Cond.selects RX8 yX8_search yX8_search ∈ lw_tbl := List.mem_append_right _ (List.mem_of_getElem? (i := 844) (by decide +kernel))
theorem kC_yX8_search : Cond.code yX8_search cX8_search 4 (Option.some Jvm.ClassFile.FieldType.int) ∈ lw_tbl := List.mem_append_right _ (List.mem_of_getElem? (i := 845) (by decide +kernel))
theorem kM_X8_152 : Cond.methodLink RX8 152 yX8_take ∈ lw_tbl := List.mem_append_right _ (List.mem_of_getElem? (i := 846) (by decide +kernel))
theorem kI_yX8_take : Cond.instanceMethod yX8_take ∈ lw_tbl := List.mem_append_right _ (List.mem_of_getElem? (i := 848) (by decide +kernel))
theorem kC_yX8_take : Cond.code yX8_take cX8_take 3 (Option.none : Option Jvm.ClassFile.FieldType) ∈ lw_tbl := List.mem_append_right _ (List.mem_of_getElem? (i := 849) (by decide +kernel))
theorem kM_X8_175 : Cond.methodLink RX8 175 yX8_keep ∈ lw_tbl := List.mem_append_right _ (List.mem_of_getElem? (i := 850) (by decide +kernel))
theorem kI_yX8_keep : Cond.instanceMethod yX8_keep ∈ lw_tbl := List.mem_append_right _ (List.mem_of_getElem? (i := 852) (by decide +kernel))
theorem kC_yX8_keep : Cond.code yX8_keep cX8_keep 2 (Option.none : Option Jvm.ClassFile.FieldType) ∈ lw_tbl := List.mem_append_right _ (List.mem_of_getElem? (i := 853) (by decide +kernel))
theorem kM_X8_178 : Cond.methodLink RX8 178 yX8_round ∈ lw_tbl := List.mem_append_right _ (List.mem_of_getElem? (i := 854) (by decide +kernel))
theorem kI_yX8_round : Cond.instanceMethod yX8_round ∈ lw_tbl := List.mem_append_right _ (List.mem_of_getElem? (i := 856) (by decide +kernel))
theorem kC_yX8_round : Cond.code yX8_round cX8_round 8 (Option.some Jvm.ClassFile.FieldType.boolean) ∈ lw_tbl := List.mem_append_right _ (List.mem_of_getElem? (i := 857) (by decide +kernel))
theorem kM_X8_165 : Cond.methodLink RX8 165 yX8_shared ∈ lw_tbl := List.mem_append_right _ (List.mem_of_getElem? (i := 858) (by decide +kernel))
theorem kI_yX8_shared : Cond.instanceMethod yX8_shared ∈ lw_tbl := List.mem_append_right _ (List.mem_of_getElem? (i := 860) (by decide +kernel))
theorem kC_yX8_shared : Cond.code yX8_shared cX8_shared 8 (Option.none : Option Jvm.ClassFile.FieldType) ∈ lw_tbl := List.mem_append_right _ (List.mem_of_getElem? (i := 861) (by decide +kernel))
theorem kM_X8_148 : Cond.methodLink RX8 148 yX8_wanted ∈ lw_tbl := List.mem_append_right _ (List.mem_of_getElem? (i := 862) (by decide +kernel))
theorem kI_yX8_wanted : Cond.instanceMethod yX8_wanted ∈ lw_tbl := List.mem_append_right _ (List.mem_of_getElem? (i := 864) (by decide +kernel))
theorem kC_yX8_wanted : Cond.code yX8_wanted cX8_wanted 5 (Option.some Jvm.ClassFile.FieldType.int) ∈ lw_tbl := List.mem_append_right _ (List.mem_of_getElem? (i := 865) (by decide +kernel))
theorem kM_X8_155 : Cond.methodLink RX8 155 yX8_isLast ∈ lw_tbl := List.mem_append_right _ (List.mem_of_getElem? (i := 866) (by decide +kernel))
theorem kI_yX8_isLast : Cond.instanceMethod yX8_isLast ∈ lw_tbl := List.mem_append_right _ (List.mem_of_getElem? (i := 868) (by decide +kernel))
theorem kC_yX8_isLast : Cond.code yX8_isLast cX8_isLast 5 (Option.some Jvm.ClassFile.FieldType.boolean) ∈ lw_tbl := List.mem_append_right _ (List.mem_of_getElem? (i := 869) (by decide +kernel))
theorem kM_X8_159 : Cond.methodLink RX8 159 yX8_left ∈ lw_tbl := List.mem_append_right _ (List.mem_of_getElem? (i := 870) (by decide +kernel))
theorem kI_yX8_left : Cond.instanceMethod yX8_left ∈ lw_tbl := List.mem_append_right _ (List.mem_of_getElem? (i := 872) (by decide +kernel))
theorem kC_yX8_left : Cond.code yX8_left cX8_left 6 (Option.some Jvm.ClassFile.FieldType.int) ∈ lw_tbl := List.mem_append_right _ (List.mem_of_getElem? (i := 873) (by decide +kernel))
theorem kM_X8_162 : Cond.methodLink RX8 162 yX8_counted ∈ lw_tbl := List.mem_append_right _ (List.mem_of_getElem? (i := 874) (by decide +kernel))
theorem kI_yX8_counted : Cond.instanceMethod yX8_counted ∈ lw_tbl := List.mem_append_right _ (List.mem_of_getElem? (i := 876) (by decide +kernel))
theorem kC_yX8_counted : Cond.code yX8_counted cX8_counted 4 (Option.some Jvm.ClassFile.FieldType.boolean) ∈ lw_tbl := List.mem_append_right _ (List.mem_of_getElem? (i := 877) (by decide +kernel))
theorem kM_X8_169 : Cond.methodLink RX8 169 yX8_plain ∈ lw_tbl := List.mem_append_right _ (List.mem_of_getElem? (i := 878) (by decide +kernel))
theorem kI_yX8_plain : Cond.instanceMethod yX8_plain ∈ lw_tbl := List.mem_append_right _ (List.mem_of_getElem? (i := 880) (by decide +kernel))
theorem kC_yX8_plain : Cond.code yX8_plain cX8_plain 5 (Option.none : Option Jvm.ClassFile.FieldType) ∈ lw_tbl := List.mem_append_right _ (List.mem_of_getElem? (i := 881) (by decide +kernel))
theorem kM_X8_182 : Cond.methodLink RX8 182 yX8_order ∈ lw_tbl := List.mem_append_right _ (List.mem_of_getElem? (i := 882) (by decide +kernel))
theorem kI_yX8_order : Cond.instanceMethod yX8_order ∈ lw_tbl := List.mem_append_right _ (List.mem_of_getElem? (i := 884) (by decide +kernel))
theorem kC_yX8_order : Cond.code yX8_order cX8_order 5 (Option.none : Option Jvm.ClassFile.FieldType) ∈ lw_tbl := List.mem_append_right _ (List.mem_of_getElem? (i := 885) (by decide +kernel))
theorem kM_X8_172 : Cond.methodLink RX8 172 yX8_isAhead ∈ lw_tbl := List.mem_append_right _ (List.mem_of_getElem? (i := 886) (by decide +kernel))
theorem kI_yX8_isAhead : Cond.instanceMethod yX8_isAhead ∈ lw_tbl := List.mem_append_right _ (List.mem_of_getElem? (i := 888) (by decide +kernel))
theorem kC_yX8_isAhead : Cond.code yX8_isAhead cX8_isAhead 6 (Option.some Jvm.ClassFile.FieldType.boolean) ∈ lw_tbl := List.mem_append_right _ (List.mem_of_getElem? (i := 889) (by decide +kernel))
theorem kM_L_81 : Cond.methodLink "CrowdLawsLaw" 81 yX8_bases ∈ lw_tbl := List.mem_append_right _ (List.mem_of_getElem? (i := 890) (by decide +kernel))
theorem kI_yX8_bases : Cond.instanceMethod yX8_bases ∈ lw_tbl := List.mem_append_right _ (List.mem_of_getElem? (i := 891) (by decide +kernel))
theorem kS_yX8_bases : Cond.selects RX8 yX8_bases yX8_bases ∈ lw_tbl := List.mem_append_right _ (List.mem_of_getElem? (i := 892) (by decide +kernel))
theorem kC_yX8_bases : Cond.code yX8_bases cX8_bases 1 (Option.some Jvm.ClassFile.FieldType.int) ∈ lw_tbl := List.mem_append_right _ (List.mem_of_getElem? (i := 893) (by decide +kernel))
theorem kM_L_85 : Cond.methodLink "CrowdLawsLaw" 85 yX8_base ∈ lw_tbl := List.mem_append_right _ (List.mem_of_getElem? (i := 894) (by decide +kernel))
theorem kI_yX8_base : Cond.instanceMethod yX8_base ∈ lw_tbl := List.mem_append_right _ (List.mem_of_getElem? (i := 895) (by decide +kernel))
theorem kS_yX8_base : Cond.selects RX8 yX8_base yX8_base ∈ lw_tbl := List.mem_append_right _ (List.mem_of_getElem? (i := 896) (by decide +kernel))
theorem kC_yX8_base : Cond.code yX8_base cX8_base 3 (Option.some Jvm.ClassFile.FieldType.int) ∈ lw_tbl := List.mem_append_right _ (List.mem_of_getElem? (i := 897) (by decide +kernel))
theorem kM_L_89 : Cond.methodLink "CrowdLawsLaw" 89 yX8_least ∈ lw_tbl := List.mem_append_right _ (List.mem_of_getElem? (i := 898) (by decide +kernel))
theorem kI_yX8_least : Cond.instanceMethod yX8_least ∈ lw_tbl := List.mem_append_right _ (List.mem_of_getElem? (i := 899) (by decide +kernel))
theorem kS_yX8_least : Cond.selects RX8 yX8_least yX8_least ∈ lw_tbl := List.mem_append_right _ (List.mem_of_getElem? (i := 900) (by decide +kernel))
theorem kC_yX8_least : Cond.code yX8_least cX8_least 5 (Option.some Jvm.ClassFile.FieldType.int) ∈ lw_tbl := List.mem_append_right _ (List.mem_of_getElem? (i := 901) (by decide +kernel))
theorem kM_L_93 : Cond.methodLink "CrowdLawsLaw" 93 yX8_reach ∈ lw_tbl := List.mem_append_right _ (List.mem_of_getElem? (i := 902) (by decide +kernel))
theorem kI_yX8_reach : Cond.instanceMethod yX8_reach ∈ lw_tbl := List.mem_append_right _ (List.mem_of_getElem? (i := 903) (by decide +kernel))
theorem kS_yX8_reach : Cond.selects RX8 yX8_reach yX8_reach ∈ lw_tbl := List.mem_append_right _ (List.mem_of_getElem? (i := 904) (by decide +kernel))
theorem kC_yX8_reach : Cond.code yX8_reach cX8_reach 4 (Option.some Jvm.ClassFile.FieldType.int) ∈ lw_tbl := List.mem_append_right _ (List.mem_of_getElem? (i := 905) (by decide +kernel))
theorem kK_X8_200 : Cond.constantLong RX8 200 (8 : Int64) ∈ lw_tbl := List.mem_append_right _ (List.mem_of_getElem? (i := 906) (by decide +kernel))
theorem kM_X8_202 : Cond.methodLink RX8 202 yX8_goThrough ∈ lw_tbl := List.mem_append_right _ (List.mem_of_getElem? (i := 907) (by decide +kernel))
theorem kI_yX8_goThrough : Cond.instanceMethod yX8_goThrough ∈ lw_tbl := List.mem_append_right _ (List.mem_of_getElem? (i := 909) (by decide +kernel))
theorem kC_yX8_goThrough : Cond.code yX8_goThrough cX8_goThrough 6 (Option.none : Option Jvm.ClassFile.FieldType) ∈ lw_tbl := List.mem_append_right _ (List.mem_of_getElem? (i := 910) (by decide +kernel))
theorem kM_X8_188 : Cond.methodLink RX8 188 yX8_crowdOf ∈ lw_tbl := List.mem_append_right _ (List.mem_of_getElem? (i := 911) (by decide +kernel))
theorem kI_yX8_crowdOf : Cond.instanceMethod yX8_crowdOf ∈ lw_tbl := List.mem_append_right _ (List.mem_of_getElem? (i := 913) (by decide +kernel))
theorem kC_yX8_crowdOf : Cond.code yX8_crowdOf cX8_crowdOf 5 (Option.none : Option Jvm.ClassFile.FieldType) ∈ lw_tbl := List.mem_append_right _ (List.mem_of_getElem? (i := 914) (by decide +kernel))
theorem kM_X8_192 : Cond.methodLink RX8 192 yX8_isStart ∈ lw_tbl := List.mem_append_right _ (List.mem_of_getElem? (i := 915) (by decide +kernel))
theorem kI_yX8_isStart : Cond.instanceMethod yX8_isStart ∈ lw_tbl := List.mem_append_right _ (List.mem_of_getElem? (i := 917) (by decide +kernel))
theorem kC_yX8_isStart : Cond.code yX8_isStart cX8_isStart 4 (Option.some Jvm.ClassFile.FieldType.boolean) ∈ lw_tbl := List.mem_append_right _ (List.mem_of_getElem? (i := 918) (by decide +kernel))
theorem kK_X8_195 : Cond.constant RX8 195 (1000000 : Int32) ∈ lw_tbl := List.mem_append_right _ (List.mem_of_getElem? (i := 919) (by decide +kernel))
theorem kM_X8_196 : Cond.methodLink RX8 196 yX8_codeOf ∈ lw_tbl := List.mem_append_right _ (List.mem_of_getElem? (i := 920) (by decide +kernel))
theorem kT_yX8_codeOf : Cond.static yX8_codeOf ∈ lw_tbl := List.mem_append_right _ (List.mem_of_getElem? (i := 921) (by decide +kernel))
theorem kC_yX8_codeOf : Cond.code yX8_codeOf cX8_codeOf 3 (Option.some Jvm.ClassFile.FieldType.int) ∈ lw_tbl := List.mem_append_right _ (List.mem_of_getElem? (i := 922) (by decide +kernel))
theorem kM_L_97 : Cond.methodLink "CrowdLawsLaw" 97 yX8_steps ∈ lw_tbl := List.mem_append_right _ (List.mem_of_getElem? (i := 923) (by decide +kernel))
theorem kI_yX8_steps : Cond.instanceMethod yX8_steps ∈ lw_tbl := List.mem_append_right _ (List.mem_of_getElem? (i := 924) (by decide +kernel))
theorem kS_yX8_steps : Cond.selects RX8 yX8_steps yX8_steps ∈ lw_tbl := List.mem_append_right _ (List.mem_of_getElem? (i := 925) (by decide +kernel))
theorem kC_yX8_steps : Cond.code yX8_steps cX8_steps 3 (Option.some Jvm.ClassFile.FieldType.int) ∈ lw_tbl := List.mem_append_right _ (List.mem_of_getElem? (i := 926) (by decide +kernel))
theorem kM_X8_206 : Cond.methodLink RX8 206 yX8_nearest ∈ lw_tbl := List.mem_append_right _ (List.mem_of_getElem? (i := 927) (by decide +kernel))
theorem kI_yX8_nearest : Cond.instanceMethod yX8_nearest ∈ lw_tbl := List.mem_append_right _ (List.mem_of_getElem? (i := 929) (by decide +kernel))
theorem kC_yX8_nearest : Cond.code yX8_nearest cX8_nearest 3 (Option.some Jvm.ClassFile.FieldType.int) ∈ lw_tbl := List.mem_append_right _ (List.mem_of_getElem? (i := 930) (by decide +kernel))
theorem kM_L_101 : Cond.methodLink "CrowdLawsLaw" 101 yX8_run ∈ lw_tbl := List.mem_append_right _ (List.mem_of_getElem? (i := 931) (by decide +kernel))
theorem kI_yX8_run : Cond.instanceMethod yX8_run ∈ lw_tbl := List.mem_append_right _ (List.mem_of_getElem? (i := 932) (by decide +kernel))
theorem kS_yX8_run : Cond.selects RX8 yX8_run yX8_run ∈ lw_tbl := List.mem_append_right _ (List.mem_of_getElem? (i := 933) (by decide +kernel))
theorem kC_yX8_run : Cond.code yX8_run cX8_run 9 (Option.some Jvm.ClassFile.FieldType.int) ∈ lw_tbl := List.mem_append_right _ (List.mem_of_getElem? (i := 934) (by decide +kernel))
theorem kM_L_105 : Cond.methodLink "CrowdLawsLaw" 105 yX8_doomedOf ∈ lw_tbl := List.mem_append_right _ (List.mem_of_getElem? (i := 935) (by decide +kernel))
theorem kI_yX8_doomedOf : Cond.instanceMethod yX8_doomedOf ∈ lw_tbl := List.mem_append_right _ (List.mem_of_getElem? (i := 936) (by decide +kernel))
theorem kS_yX8_doomedOf : Cond.selects RX8 yX8_doomedOf yX8_doomedOf ∈ lw_tbl := List.mem_append_right _ (List.mem_of_getElem? (i := 937) (by decide +kernel))
theorem kC_yX8_doomedOf : Cond.code yX8_doomedOf cX8_doomedOf 4 (Option.some Jvm.ClassFile.FieldType.int) ∈ lw_tbl := List.mem_append_right _ (List.mem_of_getElem? (i := 938) (by decide +kernel))
theorem kM_L_109 : Cond.methodLink "CrowdLawsLaw" 109 yX8_total ∈ lw_tbl := List.mem_append_right _ (List.mem_of_getElem? (i := 939) (by decide +kernel))
theorem kI_yX8_total : Cond.instanceMethod yX8_total ∈ lw_tbl := List.mem_append_right _ (List.mem_of_getElem? (i := 940) (by decide +kernel))
theorem kS_yX8_total : Cond.selects RX8 yX8_total yX8_total ∈ lw_tbl := List.mem_append_right _ (List.mem_of_getElem? (i := 941) (by decide +kernel))
theorem kC_yX8_total : Cond.code yX8_total cX8_total 2 (Option.some Jvm.ClassFile.FieldType.int) ∈ lw_tbl := List.mem_append_right _ (List.mem_of_getElem? (i := 942) (by decide +kernel))
theorem kS_yX7_forgetFindings : Cond.selects RX7 yX7_forgetFindings yX7_forgetFindings ∈ lw_tbl := List.mem_append_left _ (List.mem_of_getElem? (i := 0) (by decide +kernel))
theorem kS_yX7_addRule : Cond.selects RX7 yX7_addRule yX7_addRule ∈ lw_tbl := List.mem_append_left _ (List.mem_of_getElem? (i := 1) (by decide +kernel))
theorem kS_yX6_setGoals : Cond.selects RX6 yX6_setGoals yX6_setGoals ∈ lw_tbl := List.mem_append_left _ (List.mem_of_getElem? (i := 2) (by decide +kernel))
theorem kS_yX6_leavers : Cond.selects RX6 yX6_leavers yX6_leavers ∈ lw_tbl := List.mem_append_left _ (List.mem_of_getElem? (i := 3) (by decide +kernel))
theorem kS_yX0_takeBadOnes : Cond.selects RX0 yX0_takeBadOnes yX0_takeBadOnes ∈ lw_tbl := List.mem_append_left _ (List.mem_of_getElem? (i := 4) (by decide +kernel))
theorem kS_yX0_goRound : Cond.selects RX0 yX0_goRound yX0_goRound ∈ lw_tbl := List.mem_append_left _ (List.mem_of_getElem? (i := 5) (by decide +kernel))
theorem kS_yX0_findSums : Cond.selects RX0 yX0_findSums yX0_findSums ∈ lw_tbl := List.mem_append_left _ (List.mem_of_getElem? (i := 6) (by decide +kernel))
theorem kS_yX6_comers : Cond.selects RX6 yX6_comers yX6_comers ∈ lw_tbl := List.mem_append_left _ (List.mem_of_getElem? (i := 7) (by decide +kernel))
theorem kS_yX6_isGoal : Cond.selects RX6 yX6_isGoal yX6_isGoal ∈ lw_tbl := List.mem_append_left _ (List.mem_of_getElem? (i := 8) (by decide +kernel))
theorem kS_yX0_keepOld : Cond.selects RX0 yX0_keepOld yX0_keepOld ∈ lw_tbl := List.mem_append_left _ (List.mem_of_getElem? (i := 9) (by decide +kernel))
theorem kS_yX0_bringNew : Cond.selects RX0 yX0_bringNew yX0_bringNew ∈ lw_tbl := List.mem_append_left _ (List.mem_of_getElem? (i := 10) (by decide +kernel))
theorem kS_yX0_setOut : Cond.selects RX0 yX0_setOut yX0_setOut ∈ lw_tbl := List.mem_append_left _ (List.mem_of_getElem? (i := 11) (by decide +kernel))
theorem kS_yX0_fillFrom : Cond.selects RX0 yX0_fillFrom yX0_fillFrom ∈ lw_tbl := List.mem_append_left _ (List.mem_of_getElem? (i := 12) (by decide +kernel))
theorem kS_yX4_listCrowds : Cond.selects RX4 yX4_listCrowds yX4_listCrowds ∈ lw_tbl := List.mem_append_left _ (List.mem_of_getElem? (i := 13) (by decide +kernel))
theorem kS_yX4_codeOf : Cond.selects RX4 yX4_codeOf yX4_codeOf ∈ lw_tbl := List.mem_append_left _ (List.mem_of_getElem? (i := 14) (by decide +kernel))
theorem kS_yX4_advance : Cond.selects RX4 yX4_advance yX4_advance ∈ lw_tbl := List.mem_append_left _ (List.mem_of_getElem? (i := 15) (by decide +kernel))
theorem kS_yX4_beginAtStart : Cond.selects RX4 yX4_beginAtStart yX4_beginAtStart ∈ lw_tbl := List.mem_append_left _ (List.mem_of_getElem? (i := 16) (by decide +kernel))
theorem kS_yX4_decode : Cond.selects RX4 yX4_decode yX4_decode ∈ lw_tbl := List.mem_append_left _ (List.mem_of_getElem? (i := 17) (by decide +kernel))
theorem kS_yX4_come : Cond.selects RX4 yX4_come yX4_come ∈ lw_tbl := List.mem_append_left _ (List.mem_of_getElem? (i := 18) (by decide +kernel))
theorem kS_yX4_isPlace : Cond.selects RX4 yX4_isPlace yX4_isPlace ∈ lw_tbl := List.mem_append_left _ (List.mem_of_getElem? (i := 19) (by decide +kernel))
theorem kS_yX4_goOn : Cond.selects RX4 yX4_goOn yX4_goOn ∈ lw_tbl := List.mem_append_left _ (List.mem_of_getElem? (i := 20) (by decide +kernel))
theorem kS_yX4_levelOf : Cond.selects RX4 yX4_levelOf yX4_levelOf ∈ lw_tbl := List.mem_append_left _ (List.mem_of_getElem? (i := 21) (by decide +kernel))
theorem kS_yX4_codeAt : Cond.selects RX4 yX4_codeAt yX4_codeAt ∈ lw_tbl := List.mem_append_left _ (List.mem_of_getElem? (i := 22) (by decide +kernel))
theorem kS_yX4_placeOf : Cond.selects RX4 yX4_placeOf yX4_placeOf ∈ lw_tbl := List.mem_append_left _ (List.mem_of_getElem? (i := 23) (by decide +kernel))
theorem kS_yX4_findFewest : Cond.selects RX4 yX4_findFewest yX4_findFewest ∈ lw_tbl := List.mem_append_left _ (List.mem_of_getElem? (i := 24) (by decide +kernel))
theorem kS_yX4_markLeading : Cond.selects RX4 yX4_markLeading yX4_markLeading ∈ lw_tbl := List.mem_append_left _ (List.mem_of_getElem? (i := 25) (by decide +kernel))
theorem kS_yX4_firstLeading : Cond.selects RX4 yX4_firstLeading yX4_firstLeading ∈ lw_tbl := List.mem_append_left _ (List.mem_of_getElem? (i := 26) (by decide +kernel))
theorem kS_yX4_choosePath : Cond.selects RX4 yX4_choosePath yX4_choosePath ∈ lw_tbl := List.mem_append_left _ (List.mem_of_getElem? (i := 27) (by decide +kernel))
theorem kS_yX8_noState : Cond.selects RX8 yX8_noState yX8_noState ∈ lw_tbl := List.mem_append_left _ (List.mem_of_getElem? (i := 28) (by decide +kernel))
theorem kS_yX8_newRule : Cond.selects RX8 yX8_newRule yX8_newRule ∈ lw_tbl := List.mem_append_left _ (List.mem_of_getElem? (i := 29) (by decide +kernel))
theorem kS_yX8_isShort : Cond.selects RX8 yX8_isShort yX8_isShort ∈ lw_tbl := List.mem_append_left _ (List.mem_of_getElem? (i := 30) (by decide +kernel))
theorem kS_yX8_noRule : Cond.selects RX8 yX8_noRule yX8_noRule ∈ lw_tbl := List.mem_append_left _ (List.mem_of_getElem? (i := 31) (by decide +kernel))
theorem kS_yX8_leaves : Cond.selects RX8 yX8_leaves yX8_leaves ∈ lw_tbl := List.mem_append_left _ (List.mem_of_getElem? (i := 32) (by decide +kernel))
theorem kS_yX8_goBy : Cond.selects RX8 yX8_goBy yX8_goBy ∈ lw_tbl := List.mem_append_left _ (List.mem_of_getElem? (i := 33) (by decide +kernel))
theorem kS_yX8_mapped : Cond.selects RX8 yX8_mapped yX8_mapped ∈ lw_tbl := List.mem_append_left _ (List.mem_of_getElem? (i := 34) (by decide +kernel))
theorem kS_yX8_isBadOne : Cond.selects RX8 yX8_isBadOne yX8_isBadOne ∈ lw_tbl := List.mem_append_left _ (List.mem_of_getElem? (i := 35) (by decide +kernel))
theorem kS_yX8_noSearch : Cond.selects RX8 yX8_noSearch yX8_noSearch ∈ lw_tbl := List.mem_append_left _ (List.mem_of_getElem? (i := 36) (by decide +kernel))
theorem kS_yX8_isDoomed : Cond.selects RX8 yX8_isDoomed yX8_isDoomed ∈ lw_tbl := List.mem_append_left _ (List.mem_of_getElem? (i := 37) (by decide +kernel))
theorem kS_yX8_take : Cond.selects RX8 yX8_take yX8_take ∈ lw_tbl := List.mem_append_left _ (List.mem_of_getElem? (i := 38) (by decide +kernel))
theorem kS_yX8_keep : Cond.selects RX8 yX8_keep yX8_keep ∈ lw_tbl := List.mem_append_left _ (List.mem_of_getElem? (i := 39) (by decide +kernel))
theorem kS_yX8_round : Cond.selects RX8 yX8_round yX8_round ∈ lw_tbl := List.mem_append_left _ (List.mem_of_getElem? (i := 40) (by decide +kernel))
theorem kS_yX8_shared : Cond.selects RX8 yX8_shared yX8_shared ∈ lw_tbl := List.mem_append_left _ (List.mem_of_getElem? (i := 41) (by decide +kernel))
theorem kS_yX8_wanted : Cond.selects RX8 yX8_wanted yX8_wanted ∈ lw_tbl := List.mem_append_left _ (List.mem_of_getElem? (i := 42) (by decide +kernel))
theorem kS_yX8_isLast : Cond.selects RX8 yX8_isLast yX8_isLast ∈ lw_tbl := List.mem_append_left _ (List.mem_of_getElem? (i := 43) (by decide +kernel))
theorem kS_yX8_left : Cond.selects RX8 yX8_left yX8_left ∈ lw_tbl := List.mem_append_left _ (List.mem_of_getElem? (i := 44) (by decide +kernel))
theorem kS_yX8_counted : Cond.selects RX8 yX8_counted yX8_counted ∈ lw_tbl := List.mem_append_left _ (List.mem_of_getElem? (i := 45) (by decide +kernel))
theorem kS_yX8_plain : Cond.selects RX8 yX8_plain yX8_plain ∈ lw_tbl := List.mem_append_left _ (List.mem_of_getElem? (i := 46) (by decide +kernel))
theorem kS_yX8_order : Cond.selects RX8 yX8_order yX8_order ∈ lw_tbl := List.mem_append_left _ (List.mem_of_getElem? (i := 47) (by decide +kernel))
theorem kS_yX8_isAhead : Cond.selects RX8 yX8_isAhead yX8_isAhead ∈ lw_tbl := List.mem_append_left _ (List.mem_of_getElem? (i := 48) (by decide +kernel))
theorem kS_yX8_goThrough : Cond.selects RX8 yX8_goThrough yX8_goThrough ∈ lw_tbl := List.mem_append_left _ (List.mem_of_getElem? (i := 49) (by decide +kernel))
theorem kS_yX8_crowdOf : Cond.selects RX8 yX8_crowdOf yX8_crowdOf ∈ lw_tbl := List.mem_append_left _ (List.mem_of_getElem? (i := 50) (by decide +kernel))
theorem kS_yX8_isStart : Cond.selects RX8 yX8_isStart yX8_isStart ∈ lw_tbl := List.mem_append_left _ (List.mem_of_getElem? (i := 51) (by decide +kernel))
theorem kS_yX8_nearest : Cond.selects RX8 yX8_nearest yX8_nearest ∈ lw_tbl := List.mem_append_left _ (List.mem_of_getElem? (i := 52) (by decide +kernel))
