/-! ===== BEGIN words of one list among another's, by their places ===== -/
theorem goodIn_r {big : List Cond} (ws : List Cond) (ps : List Nat) (hp : ws = ps.filterMap (fun i => big[i]?)) (h : ws.all goodWord = true) : GoodIn big ws := by
  intro w hw
  have h1 := List.all_eq_true.mp h w hw
  rw [hp] at hw
  obtain ⟨i, -, hi⟩ := List.mem_filterMap.mp hw
  have hm : w ∈ big := by first | exact List.mem_of_getElem? hi | exact List.getElem?_mem hi
  exact ⟨hm, good_of_word h1⟩
theorem goodIn_app {big a b : List Cond} (ha : GoodIn big a) (hb : GoodIn big b) : GoodIn big (a ++ b) := fun w h => (List.mem_append.mp h).elim (ha w) (hb w)
theorem goodIn_ca {big a b : List Cond} {c : Cond} (ha : GoodIn big (c :: a)) (hb : GoodIn big b) : GoodIn big (c :: (a ++ b)) := fun w h => (List.mem_cons.mp h).elim (fun e => ha w (List.mem_cons.mpr (Or.inl e))) (fun h => (List.mem_append.mp h).elim (fun h => ha w (List.mem_cons.mpr (Or.inr h))) (hb w))
theorem goodIn_sub {big ws : List Cond} (hm : ∀ w ∈ ws, w ∈ big) (h : ws.all goodWord = true) : GoodIn big ws := fun w hw => ⟨hm w hw, good_of_word (List.all_eq_true.mp h w hw)⟩
/-! ===== END ===== -/

/-! ===== BEGIN printed: names, fields, word lists, decode rows ===== -/
def RX0 : String := "LadleKings$Coups"
def TX0 : u_T := fun k => match k with
  | _ => ("LadleKings$Coups", "kitchen", "LLadleKings$Kitchen;", true)
def tyX0 : Nat → FieldType := fun k => match k with
  | _ => .object "LadleKings$Kitchen"
abbrev wsX00 : List Cond := u_ws RX0 TX0 1
theorem nmX0 : ∀ a, a < 1 → ∀ b, b < 1 → a ≠ b → (TX0 a).2.1 ≠ (TX0 b).2.1 := by decide +kernel
theorem tyX0_ok : ∀ k, k < 1 → parseFieldDescriptor (TX0 k).2.2.1 = some (tyX0 k) := by decide +kernel
abbrev cX0_init : ByteArray := prog_2_method_1_code
def yX0_init : MethodName := ⟨RX0, "<init>", "(LLadleKings$Kitchen;)V"⟩
abbrev cX0_leastLeader : ByteArray := prog_2_method_2_code
def yX0_leastLeader : MethodName := ⟨RX0, "leastLeader", "(I)I"⟩
abbrev cX0_canLead : ByteArray := prog_2_method_3_code
def yX0_canLead : MethodName := ⟨RX0, "canLead", "(II)Z"⟩
abbrev cX0_whoRise : ByteArray := prog_2_method_4_code
def yX0_whoRise : MethodName := ⟨RX0, "whoRise", "(II)I"⟩
abbrev cX0_isEnough : ByteArray := prog_2_method_5_code
def yX0_isEnough : MethodName := ⟨RX0, "isEnough", "(I)Z"⟩
abbrev cX0_leastBand : ByteArray := prog_2_method_6_code
def yX0_leastBand : MethodName := ⟨RX0, "leastBand", "(II)I"⟩
def RX1 : String := "LadleKings$FairDays"
def TX1 : u_T := fun k => match k with
  | 0 => ("LadleKings$FairDays", "kitchen", "LLadleKings$Kitchen;", true)
  | 1 => ("LadleKings$FairDays", "pots", "[I", true)
  | 2 => ("LadleKings$FairDays", "sums", "[I", true)
  | 3 => ("LadleKings$FairDays", "kings", "[I", true)
  | 4 => ("LadleKings$FairDays", "bones", "[I", true)
  | 5 => ("LadleKings$FairDays", "row", "[I", true)
  | 6 => ("LadleKings$FairDays", "bestRow", "[I", true)
  | 7 => ("LadleKings$FairDays", "days", "I", false)
  | _ => ("LadleKings$FairDays", "least", "I", false)
def tyX1 : Nat → FieldType := fun k => match k with
  | 0 => .object "LadleKings$Kitchen"
  | 1 => .array .int
  | 2 => .array .int
  | 3 => .array .int
  | 4 => .array .int
  | 5 => .array .int
  | 6 => .array .int
  | 7 => .int
  | _ => .int
abbrev wsX10 : List Cond := u_ws RX1 TX1 9
theorem nmX1 : ∀ a, a < 9 → ∀ b, b < 9 → a ≠ b → (TX1 a).2.1 ≠ (TX1 b).2.1 := by decide +kernel
theorem tyX1_ok : ∀ k, k < 9 → parseFieldDescriptor (TX1 k).2.2.1 = some (tyX1 k) := by decide +kernel
abbrev cX1_init : ByteArray := prog_3_method_1_code
def yX1_init : MethodName := ⟨RX1, "<init>", "(LLadleKings$Kitchen;)V"⟩
abbrev cX1_leastSpread : ByteArray := prog_3_method_2_code
def yX1_leastSpread : MethodName := ⟨RX1, "leastSpread", "(I)I"⟩
abbrev cX1_begin : ByteArray := prog_3_method_3_code
def yX1_begin : MethodName := ⟨RX1, "begin", "(I)V"⟩
abbrev cX1_goOn : ByteArray := prog_3_method_4_code
def yX1_goOn : MethodName := ⟨RX1, "goOn", "(I)V"⟩
abbrev cX1_weigh : ByteArray := prog_3_method_5_code
def yX1_weigh : MethodName := ⟨RX1, "weigh", "()V"⟩
abbrev cX1_nextRow : ByteArray := prog_3_method_6_code
def yX1_nextRow : MethodName := ⟨RX1, "nextRow", "()I"⟩
def RX2 : String := "LadleKings$Kitchen"
def TX2 : u_T := fun k => match k with
  | 0 => ("LadleKings$Kitchen", "rules", "LLadleKings$Rules;", true)
  | 1 => ("LadleKings$Kitchen", "state", "LLadleKings$State;", true)
  | 2 => ("LadleKings$Kitchen", "places", "[I", true)
  | 3 => ("LadleKings$Kitchen", "holders", "[I", true)
  | _ => ("LadleKings$Kitchen", "stirred", "[I", true)
def tyX2 : Nat → FieldType := fun k => match k with
  | 0 => .object "LadleKings$Rules"
  | 1 => .object "LadleKings$State"
  | 2 => .array .int
  | 3 => .array .int
  | _ => .array .int
abbrev wsX20 : List Cond := u_ws RX2 TX2 5
theorem nmX2 : ∀ a, a < 5 → ∀ b, b < 5 → a ≠ b → (TX2 a).2.1 ≠ (TX2 b).2.1 := by decide +kernel
theorem tyX2_ok : ∀ k, k < 5 → parseFieldDescriptor (TX2 k).2.2.1 = some (tyX2 k) := by decide +kernel
abbrev cX2_init : ByteArray := prog_4_method_1_code
def yX2_init : MethodName := ⟨RX2, "<init>", "(LLadleKings$Rules;LLadleKings$State;)V"⟩
abbrev cX2_serve : ByteArray := prog_4_method_2_code
def yX2_serve : MethodName := ⟨RX2, "serve", "(I)V"⟩
abbrev cX2_serveAllKings : ByteArray := prog_4_method_3_code
def yX2_serveAllKings : MethodName := ⟨RX2, "serveAllKings", "()V"⟩
abbrev cX2_placeOf : ByteArray := prog_4_method_4_code
def yX2_placeOf : MethodName := ⟨RX2, "placeOf", "(II)I"⟩
abbrev cX2_holderOf : ByteArray := prog_4_method_5_code
def yX2_holderOf : MethodName := ⟨RX2, "holderOf", "(II)I"⟩
abbrev cX2_stirPot : ByteArray := prog_4_method_6_code
def yX2_stirPot : MethodName := ⟨RX2, "stirPot", "(I)V"⟩
abbrev cX2_bowlOf : ByteArray := prog_4_method_7_code
def yX2_bowlOf : MethodName := ⟨RX2, "bowlOf", "(II)I"⟩
abbrev cX2_passDay : ByteArray := prog_4_method_8_code
def yX2_passDay : MethodName := ⟨RX2, "passDay", "(I)V"⟩
def RX3 : String := "LadleKings$Luck"
def TX3 : u_T := fun k => match k with
  | 0 => ("LadleKings$Luck", "kitchen", "LLadleKings$Kitchen;", true)
  | 1 => ("LadleKings$Luck", "rows", "[J", true)
  | 2 => ("LadleKings$Luck", "later", "[J", true)
  | _ => ("LadleKings$Luck", "finds", "[J", true)
def tyX3 : Nat → FieldType := fun k => match k with
  | 0 => .object "LadleKings$Kitchen"
  | 1 => .array .long
  | 2 => .array .long
  | _ => .array .long
abbrev wsX30 : List Cond := u_ws RX3 TX3 4
theorem nmX3 : ∀ a, a < 4 → ∀ b, b < 4 → a ≠ b → (TX3 a).2.1 ≠ (TX3 b).2.1 := by decide +kernel
theorem tyX3_ok : ∀ k, k < 4 → parseFieldDescriptor (TX3 k).2.2.1 = some (tyX3 k) := by decide +kernel
abbrev cX3_init : ByteArray := prog_5_method_1_code
def yX3_init : MethodName := ⟨RX3, "<init>", "(LLadleKings$Kitchen;)V"⟩
abbrev cX3_rowsToCrown : ByteArray := prog_5_method_2_code
def yX3_rowsToCrown : MethodName := ⟨RX3, "rowsToCrown", "(II)J"⟩
abbrev cX3_rowsOfReign : ByteArray := prog_5_method_3_code
def yX3_rowsOfReign : MethodName := ⟨RX3, "rowsOfReign", "(I)J"⟩
abbrev cX3_begin : ByteArray := prog_5_method_4_code
def yX3_begin : MethodName := ⟨RX3, "begin", "()V"⟩
abbrev cX3_goOn : ByteArray := prog_5_method_5_code
def yX3_goOn : MethodName := ⟨RX3, "goOn", "(Z)V"⟩
abbrev cX3_goOnFrom : ByteArray := prog_5_method_6_code
def yX3_goOnFrom : MethodName := ⟨RX3, "goOnFrom", "(IIZ)V"⟩
abbrev cX3_rowsWithKing : ByteArray := prog_5_method_7_code
def yX3_rowsWithKing : MethodName := ⟨RX3, "rowsWithKing", "(I)J"⟩
abbrev cX3_triesWithFinds : ByteArray := prog_5_method_8_code
def yX3_triesWithFinds : MethodName := ⟨RX3, "triesWithFinds", "(II)J"⟩
abbrev cX3_power : ByteArray := prog_5_method_9_code
def yX3_power : MethodName := ⟨RX3, "power", "(II)J"⟩
abbrev cX3_part : ByteArray := prog_5_method_10_code
def yX3_part : MethodName := ⟨RX3, "part", "(JJI)J"⟩
abbrev cX3_greatestDivisor : ByteArray := prog_5_method_11_code
def yX3_greatestDivisor : MethodName := ⟨RX3, "greatestDivisor", "(JJ)J"⟩
def RX4 : String := "LadleKings$Past"
def TX4 : u_T := fun k => match k with
  | 0 => ("LadleKings$Past", "kitchen", "LLadleKings$Kitchen;", true)
  | _ => ("LadleKings$Past", "fitting", "[I", true)
def tyX4 : Nat → FieldType := fun k => match k with
  | 0 => .object "LadleKings$Kitchen"
  | _ => .array .int
abbrev wsX40 : List Cond := u_ws RX4 TX4 2
theorem nmX4 : ∀ a, a < 2 → ∀ b, b < 2 → a ≠ b → (TX4 a).2.1 ≠ (TX4 b).2.1 := by decide +kernel
theorem tyX4_ok : ∀ k, k < 2 → parseFieldDescriptor (TX4 k).2.2.1 = some (tyX4 k) := by decide +kernel
abbrev cX4_init : ByteArray := prog_6_method_1_code
def yX4_init : MethodName := ⟨RX4, "<init>", "(LLadleKings$Kitchen;)V"⟩
abbrev cX4_howMany : ByteArray := prog_6_method_2_code
def yX4_howMany : MethodName := ⟨RX4, "howMany", "()I"⟩
abbrev cX4_stirsBringing : ByteArray := prog_6_method_3_code
def yX4_stirsBringing : MethodName := ⟨RX4, "stirsBringing", "(II)I"⟩
abbrev cX4_stirsOfDay : ByteArray := prog_6_method_4_code
def yX4_stirsOfDay : MethodName := ⟨RX4, "stirsOfDay", "(I)I"⟩
abbrev cX4_firstStirOfDay : ByteArray := prog_6_method_5_code
def yX4_firstStirOfDay : MethodName := ⟨RX4, "firstStirOfDay", "(I)I"⟩
def RX5 : String := "LadleKings$Plans"
def TX5 : u_T := fun k => match k with
  | 0 => ("LadleKings$Plans", "kitchen", "LLadleKings$Kitchen;", true)
  | 1 => ("LadleKings$Plans", "good", "[J", true)
  | _ => ("LadleKings$Plans", "row", "[I", true)
def tyX5 : Nat → FieldType := fun k => match k with
  | 0 => .object "LadleKings$Kitchen"
  | 1 => .array .long
  | _ => .array .int
abbrev wsX50 : List Cond := u_ws RX5 TX5 3
theorem nmX5 : ∀ a, a < 3 → ∀ b, b < 3 → a ≠ b → (TX5 a).2.1 ≠ (TX5 b).2.1 := by decide +kernel
theorem tyX5_ok : ∀ k, k < 3 → parseFieldDescriptor (TX5 k).2.2.1 = some (tyX5 k) := by decide +kernel
abbrev cX5_init : ByteArray := prog_7_method_1_code
def yX5_init : MethodName := ⟨RX5, "<init>", "(LLadleKings$Kitchen;)V"⟩
abbrev cX5_planReign : ByteArray := prog_7_method_2_code
def yX5_planReign : MethodName := ⟨RX5, "planReign", "(I)I"⟩
abbrev cX5_planRaise : ByteArray := prog_7_method_3_code
def yX5_planRaise : MethodName := ⟨RX5, "planRaise", "(I)I"⟩
abbrev cX5_bitOf : ByteArray := prog_7_method_4_code
def yX5_bitOf : MethodName := ⟨RX5, "bitOf", "(II)J"⟩
abbrev cX5_pairsOfKing : ByteArray := prog_7_method_5_code
def yX5_pairsOfKing : MethodName := ⟨RX5, "pairsOfKing", "(I)J"⟩
abbrev cX5_allPairs : ByteArray := prog_7_method_6_code
def yX5_allPairs : MethodName := ⟨RX5, "allPairs", "()J"⟩
abbrev cX5_isGoodNow : ByteArray := prog_7_method_7_code
def yX5_isGoodNow : MethodName := ⟨RX5, "isGoodNow", "(I)Z"⟩
abbrev cX5_pairsBefore : ByteArray := prog_7_method_8_code
def yX5_pairsBefore : MethodName := ⟨RX5, "pairsBefore", "(JZ)J"⟩
abbrev cX5_firstStirInto : ByteArray := prog_7_method_9_code
def yX5_firstStirInto : MethodName := ⟨RX5, "firstStirInto", "(JIIZ)I"⟩
abbrev cX5_tellRow : ByteArray := prog_7_method_10_code
def yX5_tellRow : MethodName := ⟨RX5, "tellRow", "(IZ)V"⟩
def RX6 : String := "LadleKings$Rules"
def TX6 : u_T := fun k => match k with
  | 0 => ("LadleKings$Rules", "seats", "I", false)
  | 1 => ("LadleKings$Rules", "stirs", "I", false)
  | 2 => ("LadleKings$Rules", "need", "[I", true)
  | 3 => ("LadleKings$Rules", "kind", "[I", true)
  | 4 => ("LadleKings$Rules", "first", "[I", true)
  | 5 => ("LadleKings$Rules", "second", "[I", true)
  | _ => ("LadleKings$Rules", "after", "[I", true)
def tyX6 : Nat → FieldType := fun k => match k with
  | 0 => .int
  | 1 => .int
  | 2 => .array .int
  | 3 => .array .int
  | 4 => .array .int
  | 5 => .array .int
  | _ => .array .int
abbrev wsX60 : List Cond := u_ws RX6 TX6 7
theorem nmX6 : ∀ a, a < 7 → ∀ b, b < 7 → a ≠ b → (TX6 a).2.1 ≠ (TX6 b).2.1 := by decide +kernel
theorem tyX6_ok : ∀ k, k < 7 → parseFieldDescriptor (TX6 k).2.2.1 = some (tyX6 k) := by decide +kernel
abbrev cX6_init : ByteArray := prog_8_method_1_code
def yX6_init : MethodName := ⟨RX6, "<init>", "()V"⟩
abbrev cX6_reset : ByteArray := prog_8_method_2_code
def yX6_reset : MethodName := ⟨RX6, "reset", "()V"⟩
abbrev cX6_copy : ByteArray := prog_8_method_3_code
def yX6_copy : MethodName := ⟨RX6, "copy", "(LLadleKings$Rules;)V"⟩
abbrev cX6_hasSeat : ByteArray := prog_8_method_4_code
def yX6_hasSeat : MethodName := ⟨RX6, "hasSeat", "(I)Z"⟩
abbrev cX6_hasStir : ByteArray := prog_8_method_5_code
def yX6_hasStir : MethodName := ⟨RX6, "hasStir", "(I)Z"⟩
abbrev cX6_addStir : ByteArray := prog_8_method_6_code
def yX6_addStir : MethodName := ⟨RX6, "addStir", "(III)V"⟩
abbrev cX6_workOutStirs : ByteArray := prog_8_method_7_code
def yX6_workOutStirs : MethodName := ⟨RX6, "workOutStirs", "()V"⟩
abbrev cX6_workOut : ByteArray := prog_8_method_8_code
def yX6_workOut : MethodName := ⟨RX6, "workOut", "(II)I"⟩
abbrev cX6_swapped : ByteArray := prog_8_method_9_code
def yX6_swapped : MethodName := ⟨RX6, "swapped", "(III)I"⟩
abbrev cX6_lifted : ByteArray := prog_8_method_10_code
def yX6_lifted : MethodName := ⟨RX6, "lifted", "(II)I"⟩
abbrev cX6_inRing : ByteArray := prog_8_method_11_code
def yX6_inRing : MethodName := ⟨RX6, "inRing", "(I)I"⟩
abbrev cX6_placeAfter : ByteArray := prog_8_method_12_code
def yX6_placeAfter : MethodName := ⟨RX6, "placeAfter", "(II)I"⟩
abbrev cX6_stirInto : ByteArray := prog_8_method_13_code
def yX6_stirInto : MethodName := ⟨RX6, "stirInto", "(I[I[I)V"⟩
def RX7 : String := "LadleKings$Sheet"
def TX7 : u_T := fun k => match k with
  | 0 => ("LadleKings$Sheet", "lane", "I", false)
  | 1 => ("LadleKings$Sheet", "size", "I", false)
  | _ => ("LadleKings$Sheet", "cells", "[I", true)
def tyX7 : Nat → FieldType := fun k => match k with
  | 0 => .int
  | 1 => .int
  | _ => .array .int
abbrev wsX70 : List Cond := u_ws RX7 TX7 3
theorem nmX7 : ∀ a, a < 3 → ∀ b, b < 3 → a ≠ b → (TX7 a).2.1 ≠ (TX7 b).2.1 := by decide +kernel
theorem tyX7_ok : ∀ k, k < 3 → parseFieldDescriptor (TX7 k).2.2.1 = some (tyX7 k) := by decide +kernel
abbrev cX7_init : ByteArray := prog_9_method_1_code
def yX7_init : MethodName := ⟨RX7, "<init>", "()V"⟩
abbrev cX7_isNothing : ByteArray := prog_9_method_2_code
def yX7_isNothing : MethodName := ⟨RX7, "isNothing", "()Z"⟩
abbrev cX7_renew : ByteArray := prog_9_method_3_code
def yX7_renew : MethodName := ⟨RX7, "renew", "(II)V"⟩
abbrev cX7_faultAt : ByteArray := prog_9_method_4_code
def yX7_faultAt : MethodName := ⟨RX7, "faultAt", "(II)I"⟩
abbrev cX7_put : ByteArray := prog_9_method_5_code
def yX7_put : MethodName := ⟨RX7, "put", "(II)V"⟩
def RX8 : String := "LadleKings$State"
def TX8 : u_T := fun k => match k with
  | 0 => ("LadleKings$State", "pieces", "[I", true)
  | 1 => ("LadleKings$State", "friends", "[I", true)
  | 2 => ("LadleKings$State", "spoons", "[I", true)
  | 3 => ("LadleKings$State", "eaten", "[I", true)
  | 4 => ("LadleKings$State", "seen", "[I", true)
  | 5 => ("LadleKings$State", "seenDays", "I", false)
  | 6 => ("LadleKings$State", "bone", "I", false)
  | 7 => ("LadleKings$State", "king", "I", false)
  | _ => ("LadleKings$State", "days", "I", false)
def tyX8 : Nat → FieldType := fun k => match k with
  | 0 => .array .int
  | 1 => .array .int
  | 2 => .array .int
  | 3 => .array .int
  | 4 => .array .int
  | 5 => .int
  | 6 => .int
  | 7 => .int
  | _ => .int
abbrev wsX80 : List Cond := u_ws RX8 TX8 9
theorem nmX8 : ∀ a, a < 9 → ∀ b, b < 9 → a ≠ b → (TX8 a).2.1 ≠ (TX8 b).2.1 := by decide +kernel
theorem tyX8_ok : ∀ k, k < 9 → parseFieldDescriptor (TX8 k).2.2.1 = some (tyX8 k) := by decide +kernel
abbrev cX8_init : ByteArray := prog_10_method_1_code
def yX8_init : MethodName := ⟨RX8, "<init>", "()V"⟩
abbrev cX8_reset : ByteArray := prog_10_method_2_code
def yX8_reset : MethodName := ⟨RX8, "reset", "()V"⟩
abbrev cX8_copy : ByteArray := prog_10_method_3_code
def yX8_copy : MethodName := ⟨RX8, "copy", "(LLadleKings$State;)V"⟩
abbrev cX8_isFriend : ByteArray := prog_10_method_4_code
def yX8_isFriend : MethodName := ⟨RX8, "isFriend", "(II)Z"⟩
abbrev cX8_setFriend : ByteArray := prog_10_method_5_code
def yX8_setFriend : MethodName := ⟨RX8, "setFriend", "(IIZ)V"⟩
def RX9 : String := "LadleKings$Tape"
def TX9 : u_T := fun k => match k with
  | 0 => ("LadleKings$Tape", "bytes", "[B", true)
  | 1 => ("LadleKings$Tape", "length", "I", false)
  | 2 => ("LadleKings$Tape", "at", "I", false)
  | 3 => ("LadleKings$Tape", "token", "I", false)
  | 4 => ("LadleKings$Tape", "start", "I", false)
  | _ => ("LadleKings$Tape", "value", "I", false)
def tyX9 : Nat → FieldType := fun k => match k with
  | 0 => .array .byte
  | 1 => .int
  | 2 => .int
  | 3 => .int
  | 4 => .int
  | _ => .int
abbrev wsX90 : List Cond := u_ws RX9 TX9 6
theorem nmX9 : ∀ a, a < 6 → ∀ b, b < 6 → a ≠ b → (TX9 a).2.1 ≠ (TX9 b).2.1 := by decide +kernel
theorem tyX9_ok : ∀ k, k < 6 → parseFieldDescriptor (TX9 k).2.2.1 = some (tyX9 k) := by decide +kernel
abbrev cX9_init : ByteArray := prog_11_method_1_code
def yX9_init : MethodName := ⟨RX9, "<init>", "()V"⟩
abbrev cX9_append : ByteArray := prog_11_method_2_code
def yX9_append : MethodName := ⟨RX9, "append", "(J)Z"⟩
abbrev cX9_rewind : ByteArray := prog_11_method_3_code
def yX9_rewind : MethodName := ⟨RX9, "rewind", "()V"⟩
abbrev cX9_readToken : ByteArray := prog_11_method_4_code
def yX9_readToken : MethodName := ⟨RX9, "readToken", "()V"⟩
abbrev cX9_readName : ByteArray := prog_11_method_5_code
def yX9_readName : MethodName := ⟨RX9, "readName", "()V"⟩
abbrev cX9_readFigures : ByteArray := prog_11_method_6_code
def yX9_readFigures : MethodName := ⟨RX9, "readFigures", "()V"⟩
abbrev cX9_isNamed : ByteArray := prog_11_method_7_code
def yX9_isNamed : MethodName := ⟨RX9, "isNamed", "(Ljava/lang/String;)Z"⟩
abbrev cX9_isLetter : ByteArray := prog_11_method_8_code
def yX9_isLetter : MethodName := ⟨RX9, "isLetter", "(I)Z"⟩
abbrev cX9_isFigure : ByteArray := prog_11_method_9_code
def yX9_isFigure : MethodName := ⟨RX9, "isFigure", "(I)Z"⟩
def RX10 : String := "LadleKings$TextReader"
def TX10 : u_T := fun k => match k with
  | 0 => ("LadleKings$TextReader", "tape", "LLadleKings$Tape;", true)
  | 1 => ("LadleKings$TextReader", "rules", "LLadleKings$Rules;", true)
  | 2 => ("LadleKings$TextReader", "state", "LLadleKings$State;", true)
  | 3 => ("LadleKings$TextReader", "faultFound", "I", false)
  | 4 => ("LadleKings$TextReader", "faultPlace", "I", false)
  | 5 => ("LadleKings$TextReader", "lines", "I", false)
  | 6 => ("LadleKings$TextReader", "met", "I", false)
  | 7 => ("LadleKings$TextReader", "greatest", "I", false)
  | _ => ("LadleKings$TextReader", "numbers", "[I", true)
def tyX10 : Nat → FieldType := fun k => match k with
  | 0 => .object "LadleKings$Tape"
  | 1 => .object "LadleKings$Rules"
  | 2 => .object "LadleKings$State"
  | 3 => .int
  | 4 => .int
  | 5 => .int
  | 6 => .int
  | 7 => .int
  | _ => .array .int
abbrev wsX100 : List Cond := u_ws RX10 TX10 9
theorem nmX10 : ∀ a, a < 9 → ∀ b, b < 9 → a ≠ b → (TX10 a).2.1 ≠ (TX10 b).2.1 := by decide +kernel
theorem tyX10_ok : ∀ k, k < 9 → parseFieldDescriptor (TX10 k).2.2.1 = some (tyX10 k) := by decide +kernel
abbrev cX10_init : ByteArray := prog_12_method_1_code
def yX10_init : MethodName := ⟨RX10, "<init>", "(LLadleKings$Tape;)V"⟩
abbrev cX10_readTape : ByteArray := prog_12_method_2_code
def yX10_readTape : MethodName := ⟨RX10, "readTape", "()I"⟩
abbrev cX10_begin : ByteArray := prog_12_method_3_code
def yX10_begin : MethodName := ⟨RX10, "begin", "()V"⟩
abbrev cX10_refuse : ByteArray := prog_12_method_4_code
def yX10_refuse : MethodName := ⟨RX10, "refuse", "(II)Z"⟩
abbrev cX10_readLine : ByteArray := prog_12_method_5_code
def yX10_readLine : MethodName := ⟨RX10, "readLine", "()Z"⟩
abbrev cX10_nameRead : ByteArray := prog_12_method_6_code
def yX10_nameRead : MethodName := ⟨RX10, "nameRead", "()I"⟩
abbrev cX10_nameOf : ByteArray := prog_12_method_7_code
def yX10_nameOf : MethodName := ⟨RX10, "nameOf", "(I)Ljava/lang/String;"⟩
abbrev cX10_faultOfName : ByteArray := prog_12_method_8_code
def yX10_faultOfName : MethodName := ⟨RX10, "faultOfName", "(I)I"⟩
abbrev cX10_faultOfNumber : ByteArray := prog_12_method_9_code
def yX10_faultOfNumber : MethodName := ⟨RX10, "faultOfNumber", "(II)I"⟩
abbrev cX10_isAgain : ByteArray := prog_12_method_10_code
def yX10_isAgain : MethodName := ⟨RX10, "isAgain", "(I)Z"⟩
abbrev cX10_takeLine : ByteArray := prog_12_method_11_code
def yX10_takeLine : MethodName := ⟨RX10, "takeLine", "(II)V"⟩
abbrev cX10_takeStir : ByteArray := prog_12_method_12_code
def yX10_takeStir : MethodName := ⟨RX10, "takeStir", "(III)V"⟩
abbrev cX10_heed : ByteArray := prog_12_method_13_code
def yX10_heed : MethodName := ⟨RX10, "heed", "(I)V"⟩
def RX11 : String := "LadleKings"
def TX11 : u_T := fun k => match k with
  | 0 => ("LadleKings", "rules", "LLadleKings$Rules;", true)
  | 1 => ("LadleKings", "state", "LLadleKings$State;", true)
  | 2 => ("LadleKings", "tape", "LLadleKings$Tape;", true)
  | 3 => ("LadleKings", "reader", "LLadleKings$TextReader;", true)
  | 4 => ("LadleKings", "kitchen", "LLadleKings$Kitchen;", true)
  | 5 => ("LadleKings", "luck", "LLadleKings$Luck;", true)
  | 6 => ("LadleKings", "plans", "LLadleKings$Plans;", true)
  | 7 => ("LadleKings", "coups", "LLadleKings$Coups;", true)
  | 8 => ("LadleKings", "past", "LLadleKings$Past;", true)
  | 9 => ("LadleKings", "fairDays", "LLadleKings$FairDays;", true)
  | 10 => ("LadleKings", "images", "[LLadleKings$State;", true)
  | 11 => ("LadleKings", "imageHeld", "[Z", true)
  | 12 => ("LadleKings", "sheets", "[LLadleKings$Sheet;", true)
  | 13 => ("LadleKings", "latestFault", "I", false)
  | _ => ("LadleKings", "latestTear", "I", false)
def tyX11 : Nat → FieldType := fun k => match k with
  | 0 => .object "LadleKings$Rules"
  | 1 => .object "LadleKings$State"
  | 2 => .object "LadleKings$Tape"
  | 3 => .object "LadleKings$TextReader"
  | 4 => .object "LadleKings$Kitchen"
  | 5 => .object "LadleKings$Luck"
  | 6 => .object "LadleKings$Plans"
  | 7 => .object "LadleKings$Coups"
  | 8 => .object "LadleKings$Past"
  | 9 => .object "LadleKings$FairDays"
  | 10 => .array (.object "LadleKings$State")
  | 11 => .array .boolean
  | 12 => .array (.object "LadleKings$Sheet")
  | 13 => .int
  | _ => .int
abbrev wsX110 : List Cond := u_ws RX11 TX11 15
theorem nmX11 : ∀ a, a < 15 → ∀ b, b < 15 → a ≠ b → (TX11 a).2.1 ≠ (TX11 b).2.1 := by decide +kernel
theorem tyX11_ok : ∀ k, k < 15 → parseFieldDescriptor (TX11 k).2.2.1 = some (tyX11 k) := by decide +kernel
abbrev cX11_init : ByteArray := prog_1_method_1_code
def yX11_init : MethodName := ⟨RX11, "<init>", "()V"⟩
abbrev cX11_feed : ByteArray := prog_1_method_2_code
def yX11_feed : MethodName := ⟨RX11, "feed", "(J)I"⟩
abbrev cX11_end : ByteArray := prog_1_method_3_code
def yX11_end : MethodName := ⟨RX11, "end", "(I)I"⟩
abbrev cX11_text : ByteArray := prog_1_method_4_code
def yX11_text : MethodName := ⟨RX11, "text", "()I"⟩
abbrev cX11_fault : ByteArray := prog_1_method_5_code
def yX11_fault : MethodName := ⟨RX11, "fault", "()I"⟩
abbrev cX11_rule : ByteArray := prog_1_method_6_code
def yX11_rule : MethodName := ⟨RX11, "rule", "(I)I"⟩
abbrev cX11_pot : ByteArray := prog_1_method_7_code
def yX11_pot : MethodName := ⟨RX11, "pot", "(I)I"⟩
abbrev cX11_one : ByteArray := prog_1_method_8_code
def yX11_one : MethodName := ⟨RX11, "one", "(II)I"⟩
abbrev cX11_stir : ByteArray := prog_1_method_9_code
def yX11_stir : MethodName := ⟨RX11, "stir", "(II)I"⟩
abbrev cX11_befriend : ByteArray := prog_1_method_10_code
def yX11_befriend : MethodName := ⟨RX11, "befriend", "(IIZ)I"⟩
abbrev cX11_spoon : ByteArray := prog_1_method_11_code
def yX11_spoon : MethodName := ⟨RX11, "spoon", "(II)I"⟩
abbrev cX11_crown : ByteArray := prog_1_method_12_code
def yX11_crown : MethodName := ⟨RX11, "crown", "(I)I"⟩
abbrev cX11_fill : ByteArray := prog_1_method_13_code
def yX11_fill : MethodName := ⟨RX11, "fill", "(II)I"⟩
abbrev cX11_bowl : ByteArray := prog_1_method_14_code
def yX11_bowl : MethodName := ⟨RX11, "bowl", "(III)I"⟩
abbrev cX11_ladle : ByteArray := prog_1_method_15_code
def yX11_ladle : MethodName := ⟨RX11, "ladle", "(III)I"⟩
abbrev cX11_next : ByteArray := prog_1_method_16_code
def yX11_next : MethodName := ⟨RX11, "next", "(II)I"⟩
abbrev cX11_day : ByteArray := prog_1_method_17_code
def yX11_day : MethodName := ⟨RX11, "day", "(I)I"⟩
abbrev cX11_hungry : ByteArray := prog_1_method_18_code
def yX11_hungry : MethodName := ⟨RX11, "hungry", "()I"⟩
abbrev cX11_chance : ByteArray := prog_1_method_19_code
def yX11_chance : MethodName := ⟨RX11, "chance", "(III)J"⟩
abbrev cX11_lasts : ByteArray := prog_1_method_20_code
def yX11_lasts : MethodName := ⟨RX11, "lasts", "(II)J"⟩
abbrev cX11_reign : ByteArray := prog_1_method_21_code
def yX11_reign : MethodName := ⟨RX11, "reign", "(II)I"⟩
abbrev cX11_raise : ByteArray := prog_1_method_22_code
def yX11_raise : MethodName := ⟨RX11, "raise", "(II)I"⟩
abbrev cX11_coup : ByteArray := prog_1_method_23_code
def yX11_coup : MethodName := ⟨RX11, "coup", "(III)I"⟩
abbrev cX11_firm : ByteArray := prog_1_method_24_code
def yX11_firm : MethodName := ⟨RX11, "firm", "(I)I"⟩
abbrev cX11_see : ByteArray := prog_1_method_25_code
def yX11_see : MethodName := ⟨RX11, "see", "(I)I"⟩
abbrev cX11_forget : ByteArray := prog_1_method_26_code
def yX11_forget : MethodName := ⟨RX11, "forget", "(I)I"⟩
abbrev cX11_histories : ByteArray := prog_1_method_27_code
def yX11_histories : MethodName := ⟨RX11, "histories", "(I)I"⟩
abbrev cX11_could : ByteArray := prog_1_method_28_code
def yX11_could : MethodName := ⟨RX11, "could", "(I)I"⟩
abbrev cX11_blind : ByteArray := prog_1_method_29_code
def yX11_blind : MethodName := ⟨RX11, "blind", "(III)J"⟩
abbrev cX11_fair : ByteArray := prog_1_method_30_code
def yX11_fair : MethodName := ⟨RX11, "fair", "(II)I"⟩
abbrev cX11_keep : ByteArray := prog_1_method_31_code
def yX11_keep : MethodName := ⟨RX11, "keep", "(I)I"⟩
abbrev cX11_back : ByteArray := prog_1_method_32_code
def yX11_back : MethodName := ⟨RX11, "back", "(I)I"⟩
abbrev cX11_sheet : ByteArray := prog_1_method_33_code
def yX11_sheet : MethodName := ⟨RX11, "sheet", "(III)I"⟩
abbrev cX11_lay : ByteArray := prog_1_method_34_code
def yX11_lay : MethodName := ⟨RX11, "lay", "(III)I"⟩
abbrev cX11_read : ByteArray := prog_1_method_35_code
def yX11_read : MethodName := ⟨RX11, "read", "(IIII)I"⟩
abbrev cX11_torn : ByteArray := prog_1_method_36_code
def yX11_torn : MethodName := ⟨RX11, "torn", "()I"⟩
abbrev cX11_count : ByteArray := prog_1_method_37_code
def yX11_count : MethodName := ⟨RX11, "count", "(I)I"⟩
abbrev cX11_piecesInPot : ByteArray := prog_1_method_38_code
def yX11_piecesInPot : MethodName := ⟨RX11, "piecesInPot", "()I"⟩
abbrev cX11_canPass : ByteArray := prog_1_method_39_code
def yX11_canPass : MethodName := ⟨RX11, "canPass", "(II)Z"⟩
abbrev cX11_isPart : ByteArray := prog_1_method_40_code
def yX11_isPart : MethodName := ⟨RX11, "isPart", "(I)Z"⟩
abbrev cX11_isRowQuestion : ByteArray := prog_1_method_41_code
def yX11_isRowQuestion : MethodName := ⟨RX11, "isRowQuestion", "(II)Z"⟩
abbrev cX11_ofRow : ByteArray := prog_1_method_42_code
def yX11_ofRow : MethodName := ⟨RX11, "ofRow", "([III)I"⟩
abbrev cX11_isImage : ByteArray := prog_1_method_43_code
def yX11_isImage : MethodName := ⟨RX11, "isImage", "(I)Z"⟩
abbrev cX11_isSheet : ByteArray := prog_1_method_44_code
def yX11_isSheet : MethodName := ⟨RX11, "isSheet", "(I)Z"⟩
abbrev cX11_isLane : ByteArray := prog_1_method_45_code
def yX11_isLane : MethodName := ⟨RX11, "isLane", "(I)Z"⟩
def RX12 : String := "LadleKingsModel"
def TX12 : u_T := fun k => match k with
  | 0 => ("LadleKingsModel", "st", "[I", true)
  | 1 => ("LadleKingsModel", "isKept", "[Z", true)
  | 2 => ("LadleKingsModel", "seats", "I", false)
  | 3 => ("LadleKingsModel", "stirs", "I", false)
  | 4 => ("LadleKingsModel", "brings", "[I", true)
  | 5 => ("LadleKingsModel", "need", "[I", true)
  | 6 => ("LadleKingsModel", "draft", "[I", true)
  | 7 => ("LadleKingsModel", "dSeats", "I", false)
  | 8 => ("LadleKingsModel", "dStirs", "I", false)
  | 9 => ("LadleKingsModel", "dStir", "[I", true)
  | 10 => ("LadleKingsModel", "dNeed", "[I", true)
  | 11 => ("LadleKingsModel", "told", "I", false)
  | 12 => ("LadleKingsModel", "highest", "I", false)
  | 13 => ("LadleKingsModel", "tape", "[I", true)
  | 14 => ("LadleKingsModel", "taped", "I", false)
  | 15 => ("LadleKingsModel", "pos", "I", false)
  | 16 => ("LadleKingsModel", "from", "I", false)
  | 17 => ("LadleKingsModel", "sort", "I", false)
  | 18 => ("LadleKingsModel", "value", "I", false)
  | 19 => ("LadleKingsModel", "fault", "I", false)
  | 20 => ("LadleKingsModel", "wrongAt", "I", false)
  | 21 => ("LadleKingsModel", "places", "[I", true)
  | 22 => ("LadleKingsModel", "stirred", "[I", true)
  | 23 => ("LadleKingsModel", "ways", "[J", true)
  | 24 => ("LadleKingsModel", "waysThen", "[J", true)
  | 25 => ("LadleKingsModel", "stays", "[I", true)
  | 26 => ("LadleKingsModel", "fewest", "[I", true)
  | 27 => ("LadleKingsModel", "bowls", "[I", true)
  | 28 => ("LadleKingsModel", "has", "[I", true)
  | 29 => ("LadleKingsModel", "goesOn", "[I", true)
  | 30 => ("LadleKingsModel", "isThere", "[Z", true)
  | 31 => ("LadleKingsModel", "isThereThen", "[Z", true)
  | 32 => ("LadleKingsModel", "bestRow", "[I", true)
  | 33 => ("LadleKingsModel", "lanes", "[I", true)
  | 34 => ("LadleKingsModel", "sizes", "[I", true)
  | 35 => ("LadleKingsModel", "cells", "[I", true)
  | _ => ("LadleKingsModel", "torn", "I", false)
def tyX12 : Nat → FieldType := fun k => match k with
  | 0 => .array .int
  | 1 => .array .boolean
  | 2 => .int
  | 3 => .int
  | 4 => .array .int
  | 5 => .array .int
  | 6 => .array .int
  | 7 => .int
  | 8 => .int
  | 9 => .array .int
  | 10 => .array .int
  | 11 => .int
  | 12 => .int
  | 13 => .array .int
  | 14 => .int
  | 15 => .int
  | 16 => .int
  | 17 => .int
  | 18 => .int
  | 19 => .int
  | 20 => .int
  | 21 => .array .int
  | 22 => .array .int
  | 23 => .array .long
  | 24 => .array .long
  | 25 => .array .int
  | 26 => .array .int
  | 27 => .array .int
  | 28 => .array .int
  | 29 => .array .int
  | 30 => .array .boolean
  | 31 => .array .boolean
  | 32 => .array .int
  | 33 => .array .int
  | 34 => .array .int
  | 35 => .array .int
  | _ => .int
abbrev wsX120 : List Cond := u_ws RX12 TX12 37
theorem nmX12 : ∀ a, a < 37 → ∀ b, b < 37 → a ≠ b → (TX12 a).2.1 ≠ (TX12 b).2.1 := by decide +kernel
theorem tyX12_ok : ∀ k, k < 37 → parseFieldDescriptor (TX12 k).2.2.1 = some (tyX12 k) := by decide +kernel
abbrev cX12_init : ByteArray := prog_14_method_1_code
def yX12_init : MethodName := ⟨RX12, "<init>", "()V"⟩
abbrev cX12_in : ByteArray := prog_14_method_3_code
def yX12_in : MethodName := ⟨RX12, "in", "(JJJ)Z"⟩
abbrev cX12_flag : ByteArray := prog_14_method_4_code
def yX12_flag : MethodName := ⟨RX12, "flag", "(Z)I"⟩
abbrev cX12_firstDraft : ByteArray := prog_14_method_5_code
def yX12_firstDraft : MethodName := ⟨RX12, "firstDraft", "()V"⟩
abbrev cX12_broughtTo : ByteArray := prog_14_method_6_code
def yX12_broughtTo : MethodName := ⟨RX12, "broughtTo", "(II)I"⟩
abbrev cX12_keepDraft : ByteArray := prog_14_method_7_code
def yX12_keepDraft : MethodName := ⟨RX12, "keepDraft", "()V"⟩
abbrev cX12_feed : ByteArray := prog_14_method_8_code
def yX12_feed : MethodName := ⟨RX12, "feed", "(J)I"⟩
abbrev cX12_end : ByteArray := prog_14_method_9_code
def yX12_end : MethodName := ⟨RX12, "end", "(I)I"⟩
abbrev cX12_needs : ByteArray := prog_14_method_10_code
def yX12_needs : MethodName := ⟨RX12, "needs", "(ZI)V"⟩
abbrev cX12_look : ByteArray := prog_14_method_11_code
def yX12_look : MethodName := ⟨RX12, "look", "(I)I"⟩
abbrev cX12_is : ByteArray := prog_14_method_12_code
def yX12_is : MethodName := ⟨RX12, "is", "(IIII)Z"⟩
abbrev cX12_ends : ByteArray := prog_14_method_13_code
def yX12_ends : MethodName := ⟨RX12, "ends", "(III)Z"⟩
abbrev cX12_stirNow : ByteArray := prog_14_method_14_code
def yX12_stirNow : MethodName := ⟨RX12, "stirNow", "()I"⟩
abbrev cX12_lineNow : ByteArray := prog_14_method_15_code
def yX12_lineNow : MethodName := ⟨RX12, "lineNow", "()I"⟩
abbrev cX12_nextToken : ByteArray := prog_14_method_16_code
def yX12_nextToken : MethodName := ⟨RX12, "nextToken", "()V"⟩
abbrev cX12_looked : ByteArray := prog_14_method_17_code
def yX12_looked : MethodName := ⟨RX12, "looked", "(II)I"⟩
abbrev cX12_readNumber : ByteArray := prog_14_method_18_code
def yX12_readNumber : MethodName := ⟨RX12, "readNumber", "(II)I"⟩
abbrev cX12_lookedPlace : ByteArray := prog_14_method_19_code
def yX12_lookedPlace : MethodName := ⟨RX12, "lookedPlace", "()I"⟩
abbrev cX12_readPlace : ByteArray := prog_14_method_20_code
def yX12_readPlace : MethodName := ⟨RX12, "readPlace", "()I"⟩
abbrev cX12_readPot : ByteArray := prog_14_method_21_code
def yX12_readPot : MethodName := ⟨RX12, "readPot", "()V"⟩
abbrev cX12_readFriend : ByteArray := prog_14_method_22_code
def yX12_readFriend : MethodName := ⟨RX12, "readFriend", "()V"⟩
abbrev cX12_readStir : ByteArray := prog_14_method_23_code
def yX12_readStir : MethodName := ⟨RX12, "readStir", "(I)V"⟩
abbrev cX12_readLineOf : ByteArray := prog_14_method_24_code
def yX12_readLineOf : MethodName := ⟨RX12, "readLineOf", "(I)V"⟩
abbrev cX12_readLine : ByteArray := prog_14_method_25_code
def yX12_readLine : MethodName := ⟨RX12, "readLine", "()V"⟩
abbrev cX12_text : ByteArray := prog_14_method_26_code
def yX12_text : MethodName := ⟨RX12, "text", "()I"⟩
abbrev cX12_fault : ByteArray := prog_14_method_27_code
def yX12_fault : MethodName := ⟨RX12, "fault", "()I"⟩
abbrev cX12_isSeat : ByteArray := prog_14_method_28_code
def yX12_isSeat : MethodName := ⟨RX12, "isSeat", "(I)Z"⟩
abbrev cX12_isStir : ByteArray := prog_14_method_29_code
def yX12_isStir : MethodName := ⟨RX12, "isStir", "(I)Z"⟩
abbrev cX12_rule : ByteArray := prog_14_method_30_code
def yX12_rule : MethodName := ⟨RX12, "rule", "(I)I"⟩
abbrev cX12_pot : ByteArray := prog_14_method_31_code
def yX12_pot : MethodName := ⟨RX12, "pot", "(I)I"⟩
abbrev cX12_one : ByteArray := prog_14_method_32_code
def yX12_one : MethodName := ⟨RX12, "one", "(II)I"⟩
abbrev cX12_stir : ByteArray := prog_14_method_33_code
def yX12_stir : MethodName := ⟨RX12, "stir", "(II)I"⟩
abbrev cX12_befriend : ByteArray := prog_14_method_34_code
def yX12_befriend : MethodName := ⟨RX12, "befriend", "(IIZ)I"⟩
abbrev cX12_spoon : ByteArray := prog_14_method_35_code
def yX12_spoon : MethodName := ⟨RX12, "spoon", "(II)I"⟩
abbrev cX12_crown : ByteArray := prog_14_method_36_code
def yX12_crown : MethodName := ⟨RX12, "crown", "(I)I"⟩
abbrev cX12_fill : ByteArray := prog_14_method_37_code
def yX12_fill : MethodName := ⟨RX12, "fill", "(II)I"⟩
abbrev cX12_findPlaces : ByteArray := prog_14_method_38_code
def yX12_findPlaces : MethodName := ⟨RX12, "findPlaces", "(I)V"⟩
abbrev cX12_cameFrom : ByteArray := prog_14_method_39_code
def yX12_cameFrom : MethodName := ⟨RX12, "cameFrom", "(II)I"⟩
abbrev cX12_nextBy : ByteArray := prog_14_method_40_code
def yX12_nextBy : MethodName := ⟨RX12, "nextBy", "(III)I"⟩
abbrev cX12_bowl : ByteArray := prog_14_method_41_code
def yX12_bowl : MethodName := ⟨RX12, "bowl", "(III)I"⟩
abbrev cX12_ladle : ByteArray := prog_14_method_42_code
def yX12_ladle : MethodName := ⟨RX12, "ladle", "(III)I"⟩
abbrev cX12_next : ByteArray := prog_14_method_43_code
def yX12_next : MethodName := ⟨RX12, "next", "(II)I"⟩
abbrev cX12_goesDay : ByteArray := prog_14_method_44_code
def yX12_goesDay : MethodName := ⟨RX12, "goesDay", "(I)V"⟩
abbrev cX12_day : ByteArray := prog_14_method_45_code
def yX12_day : MethodName := ⟨RX12, "day", "(I)I"⟩
abbrev cX12_hungry : ByteArray := prog_14_method_46_code
def yX12_hungry : MethodName := ⟨RX12, "hungry", "()I"⟩
abbrev cX12_common : ByteArray := prog_14_method_47_code
def yX12_common : MethodName := ⟨RX12, "common", "(JJ)J"⟩
abbrev cX12_lowest : ByteArray := prog_14_method_48_code
def yX12_lowest : MethodName := ⟨RX12, "lowest", "(JJI)J"⟩
abbrev cX12_power : ByteArray := prog_14_method_49_code
def yX12_power : MethodName := ⟨RX12, "power", "(JI)J"⟩
abbrev cX12_firstWays : ByteArray := prog_14_method_50_code
def yX12_firstWays : MethodName := ⟨RX12, "firstWays", "()V"⟩
abbrev cX12_then : ByteArray := prog_14_method_51_code
def yX12_then : MethodName := ⟨RX12, "then", "(II)I"⟩
abbrev cX12_nextWays : ByteArray := prog_14_method_52_code
def yX12_nextWays : MethodName := ⟨RX12, "nextWays", "(Z)V"⟩
abbrev cX12_isTold : ByteArray := prog_14_method_53_code
def yX12_isTold : MethodName := ⟨RX12, "isTold", "(I)Z"⟩
abbrev cX12_chance : ByteArray := prog_14_method_54_code
def yX12_chance : MethodName := ⟨RX12, "chance", "(III)J"⟩
abbrev cX12_lasts : ByteArray := prog_14_method_55_code
def yX12_lasts : MethodName := ⟨RX12, "lasts", "(II)J"⟩
abbrev cX12_longestFrom : ByteArray := prog_14_method_56_code
def yX12_longestFrom : MethodName := ⟨RX12, "longestFrom", "(II)I"⟩
abbrev cX12_findStays : ByteArray := prog_14_method_57_code
def yX12_findStays : MethodName := ⟨RX12, "findStays", "(I)V"⟩
abbrev cX12_stateNow : ByteArray := prog_14_method_58_code
def yX12_stateNow : MethodName := ⟨RX12, "stateNow", "()I"⟩
abbrev cX12_reign : ByteArray := prog_14_method_59_code
def yX12_reign : MethodName := ⟨RX12, "reign", "(II)I"⟩
abbrev cX12_findFewest : ByteArray := prog_14_method_60_code
def yX12_findFewest : MethodName := ⟨RX12, "findFewest", "(I)V"⟩
abbrev cX12_raise : ByteArray := prog_14_method_61_code
def yX12_raise : MethodName := ⟨RX12, "raise", "(II)I"⟩
abbrev cX12_findBowls : ByteArray := prog_14_method_62_code
def yX12_findBowls : MethodName := ⟨RX12, "findBowls", "(II)V"⟩
abbrev cX12_spoonsOf : ByteArray := prog_14_method_63_code
def yX12_spoonsOf : MethodName := ⟨RX12, "spoonsOf", "(I)I"⟩
abbrev cX12_coupBy : ByteArray := prog_14_method_64_code
def yX12_coupBy : MethodName := ⟨RX12, "coupBy", "(III)I"⟩
abbrev cX12_leaderBy : ByteArray := prog_14_method_65_code
def yX12_leaderBy : MethodName := ⟨RX12, "leaderBy", "(II)I"⟩
abbrev cX12_coup : ByteArray := prog_14_method_66_code
def yX12_coup : MethodName := ⟨RX12, "coup", "(III)I"⟩
abbrev cX12_firm : ByteArray := prog_14_method_67_code
def yX12_firm : MethodName := ⟨RX12, "firm", "(I)I"⟩
abbrev cX12_see : ByteArray := prog_14_method_68_code
def yX12_see : MethodName := ⟨RX12, "see", "(I)I"⟩
abbrev cX12_forget : ByteArray := prog_14_method_69_code
def yX12_forget : MethodName := ⟨RX12, "forget", "(I)I"⟩
abbrev cX12_findHistories : ByteArray := prog_14_method_70_code
def yX12_findHistories : MethodName := ⟨RX12, "findHistories", "()V"⟩
abbrev cX12_canGo : ByteArray := prog_14_method_71_code
def yX12_canGo : MethodName := ⟨RX12, "canGo", "(III)Z"⟩
abbrev cX12_histories : ByteArray := prog_14_method_72_code
def yX12_histories : MethodName := ⟨RX12, "histories", "(I)I"⟩
abbrev cX12_could : ByteArray := prog_14_method_73_code
def yX12_could : MethodName := ⟨RX12, "could", "(I)I"⟩
abbrev cX12_blind : ByteArray := prog_14_method_74_code
def yX12_blind : MethodName := ⟨RX12, "blind", "(III)J"⟩
abbrev cX12_copies : ByteArray := prog_14_method_75_code
def yX12_copies : MethodName := ⟨RX12, "copies", "(II)V"⟩
abbrev cX12_unlikeBy : ByteArray := prog_14_method_76_code
def yX12_unlikeBy : MethodName := ⟨RX12, "unlikeBy", "(II)I"⟩
abbrev cX12_fair : ByteArray := prog_14_method_77_code
def yX12_fair : MethodName := ⟨RX12, "fair", "(II)I"⟩
abbrev cX12_keep : ByteArray := prog_14_method_78_code
def yX12_keep : MethodName := ⟨RX12, "keep", "(I)I"⟩
abbrev cX12_back : ByteArray := prog_14_method_79_code
def yX12_back : MethodName := ⟨RX12, "back", "(I)I"⟩
abbrev cX12_isSheet : ByteArray := prog_14_method_80_code
def yX12_isSheet : MethodName := ⟨RX12, "isSheet", "(II)Z"⟩
abbrev cX12_sheet : ByteArray := prog_14_method_81_code
def yX12_sheet : MethodName := ⟨RX12, "sheet", "(III)I"⟩
abbrev cX12_lay : ByteArray := prog_14_method_82_code
def yX12_lay : MethodName := ⟨RX12, "lay", "(III)I"⟩
abbrev cX12_read : ByteArray := prog_14_method_83_code
def yX12_read : MethodName := ⟨RX12, "read", "(IIII)I"⟩
abbrev cX12_torn : ByteArray := prog_14_method_84_code
def yX12_torn : MethodName := ⟨RX12, "torn", "()I"⟩
abbrev cX12_count : ByteArray := prog_14_method_85_code
def yX12_count : MethodName := ⟨RX12, "count", "(I)I"⟩
def RJx145de : String := "java/io/Serializable"
def TJx145de : u_T := fun k => match k with
  | _ => ("", "", "", false)
def tyJx145de : Nat → FieldType := fun k => match k with
  | _ => .int
abbrev wsJx145de0 : List Cond := u_ws RJx145de TJx145de 0
theorem nmJx145de : ∀ a, a < 0 → ∀ b, b < 0 → a ≠ b → (TJx145de a).2.1 ≠ (TJx145de b).2.1 := by decide +kernel
theorem tyJx145de_ok : ∀ k, k < 0 → parseFieldDescriptor (TJx145de k).2.2.1 = some (tyJx145de k) := by decide +kernel
def RJx9f9b0 : String := "java/lang/CharSequence"
def TJx9f9b0 : u_T := fun k => match k with
  | _ => ("", "", "", false)
def tyJx9f9b0 : Nat → FieldType := fun k => match k with
  | _ => .int
abbrev wsJx9f9b00 : List Cond := u_ws RJx9f9b0 TJx9f9b0 0
theorem nmJx9f9b0 : ∀ a, a < 0 → ∀ b, b < 0 → a ≠ b → (TJx9f9b0 a).2.1 ≠ (TJx9f9b0 b).2.1 := by decide +kernel
theorem tyJx9f9b0_ok : ∀ k, k < 0 → parseFieldDescriptor (TJx9f9b0 k).2.2.1 = some (tyJx9f9b0 k) := by decide +kernel
def RJxb160c : String := "java/lang/Comparable"
def TJxb160c : u_T := fun k => match k with
  | _ => ("", "", "", false)
def tyJxb160c : Nat → FieldType := fun k => match k with
  | _ => .int
abbrev wsJxb160c0 : List Cond := u_ws RJxb160c TJxb160c 0
theorem nmJxb160c : ∀ a, a < 0 → ∀ b, b < 0 → a ≠ b → (TJxb160c a).2.1 ≠ (TJxb160c b).2.1 := by decide +kernel
theorem tyJxb160c_ok : ∀ k, k < 0 → parseFieldDescriptor (TJxb160c k).2.2.1 = some (tyJxb160c k) := by decide +kernel
def RJ6 : String := "java/lang/Integer"
def TJ6 : u_T := fun k => match k with
  | _ => ("", "", "", false)
def tyJ6 : Nat → FieldType := fun k => match k with
  | _ => .int
abbrev wsJ60 : List Cond := u_ws RJ6 TJ6 0
theorem nmJ6 : ∀ a, a < 0 → ∀ b, b < 0 → a ≠ b → (TJ6 a).2.1 ≠ (TJ6 b).2.1 := by decide +kernel
theorem tyJ6_ok : ∀ k, k < 0 → parseFieldDescriptor (TJ6 k).2.2.1 = some (tyJ6 k) := by decide +kernel
abbrev cJ6_bitCount_0f7a4 : ByteArray := prog_15_method_49_code
def yJ6_bitCount_0f7a4 : MethodName := ⟨RJ6, "bitCount", "(I)I"⟩
def RJ9 : String := "java/lang/Math"
def TJ9 : u_T := fun k => match k with
  | _ => ("", "", "", false)
def tyJ9 : Nat → FieldType := fun k => match k with
  | _ => .int
abbrev wsJ90 : List Cond := u_ws RJ9 TJ9 0
theorem nmJ9 : ∀ a, a < 0 → ∀ b, b < 0 → a ≠ b → (TJ9 a).2.1 ≠ (TJ9 b).2.1 := by decide +kernel
theorem tyJ9_ok : ∀ k, k < 0 → parseFieldDescriptor (TJ9 k).2.2.1 = some (tyJ9 k) := by decide +kernel
abbrev cJ9_max_7cf53 : ByteArray := prog_16_method_65_code
def yJ9_max_7cf53 : MethodName := ⟨RJ9, "max", "(II)I"⟩
abbrev cJ9_min_7cf53 : ByteArray := prog_16_method_69_code
def yJ9_min_7cf53 : MethodName := ⟨RJ9, "min", "(II)I"⟩
def RJ0 : String := "java/lang/String"
def TJ0 : u_T := fun k => match k with
  | _ => ("", "", "", false)
def tyJ0 : Nat → FieldType := fun k => match k with
  | _ => .int
abbrev wsJ00 : List Cond := u_ws RJ0 TJ0 0
theorem nmJ0 : ∀ a, a < 0 → ∀ b, b < 0 → a ≠ b → (TJ0 a).2.1 ≠ (TJ0 b).2.1 := by decide +kernel
theorem tyJ0_ok : ∀ k, k < 0 → parseFieldDescriptor (TJ0 k).2.2.1 = some (tyJ0 k) := by decide +kernel
abbrev cJ0_length_8abf5 : ByteArray := prog_17_method_54_code
def yJ0_length_8abf5 : MethodName := ⟨RJ0, "length", "()I"⟩
abbrev cJ0_charAt_5068e : ByteArray := prog_17_method_56_code
def yJ0_charAt_5068e : MethodName := ⟨RJ0, "charAt", "(I)C"⟩
abbrev cJ0_coder_7d493 : ByteArray := prog_17_method_152_code
def yJ0_coder_7d493 : MethodName := ⟨RJ0, "coder", "()B"⟩
abbrev cJ0_isLatin1_aae02 : ByteArray := prog_17_method_154_code
def yJ0_isLatin1_aae02 : MethodName := ⟨RJ0, "isLatin1", "()Z"⟩
abbrev cJ0_checkIndex_df160 : ByteArray := prog_17_method_155_code
def yJ0_checkIndex_df160 : MethodName := ⟨RJ0, "checkIndex", "(II)V"⟩
def RJ1 : String := "java/lang/StringLatin1"
def TJ1 : u_T := fun k => match k with
  | _ => ("", "", "", false)
def tyJ1 : Nat → FieldType := fun k => match k with
  | _ => .int
abbrev wsJ10 : List Cond := u_ws RJ1 TJ1 0
theorem nmJ1 : ∀ a, a < 0 → ∀ b, b < 0 → a ≠ b → (TJ1 a).2.1 ≠ (TJ1 b).2.1 := by decide +kernel
theorem tyJ1_ok : ∀ k, k < 0 → parseFieldDescriptor (TJ1 k).2.2.1 = some (tyJ1 k) := by decide +kernel
abbrev cJ1_charAt_3b067 : ByteArray := prog_18_method_2_code
def yJ1_charAt_3b067 : MethodName := ⟨RJ1, "charAt", "([BI)C"⟩
def RJ2 : String := "java/lang/StringUTF16"
def TJ2 : u_T := fun k => match k with
  | _ => ("", "", "", false)
def tyJ2 : Nat → FieldType := fun k => match k with
  | _ => .int
abbrev wsJ20 : List Cond := u_ws RJ2 TJ2 0
theorem nmJ2 : ∀ a, a < 0 → ∀ b, b < 0 → a ≠ b → (TJ2 a).2.1 ≠ (TJ2 b).2.1 := by decide +kernel
theorem tyJ2_ok : ∀ k, k < 0 → parseFieldDescriptor (TJ2 k).2.2.1 = some (tyJ2 k) := by decide +kernel
abbrev cJ2_getChar_3b067 : ByteArray := prog_19_method_5_code
def yJ2_getChar_3b067 : MethodName := ⟨RJ2, "getChar", "([BI)C"⟩
abbrev cJ2_length_9d52b : ByteArray := prog_19_method_6_code
def yJ2_length_9d52b : MethodName := ⟨RJ2, "length", "([B)I"⟩
abbrev cJ2_charAt_3b067 : ByteArray := prog_19_method_83_code
def yJ2_charAt_3b067 : MethodName := ⟨RJ2, "charAt", "([BI)C"⟩
abbrev cJ2_checkIndex_2214a : ByteArray := prog_19_method_91_code
def yJ2_checkIndex_2214a : MethodName := ⟨RJ2, "checkIndex", "(I[B)V"⟩
def RJ10 : String := "java/lang/System"
def TJ10 : u_T := fun k => match k with
  | _ => ("", "", "", false)
def tyJ10 : Nat → FieldType := fun k => match k with
  | _ => .int
abbrev wsJ100 : List Cond := u_ws RJ10 TJ10 0
theorem nmJ10 : ∀ a, a < 0 → ∀ b, b < 0 → a ≠ b → (TJ10 a).2.1 ≠ (TJ10 b).2.1 := by decide +kernel
theorem tyJ10_ok : ∀ k, k < 0 → parseFieldDescriptor (TJ10 k).2.2.1 = some (tyJ10 k) := by decide +kernel
def RJxfd54e : String := "java/lang/constant/Constable"
def TJxfd54e : u_T := fun k => match k with
  | _ => ("", "", "", false)
def tyJxfd54e : Nat → FieldType := fun k => match k with
  | _ => .int
abbrev wsJxfd54e0 : List Cond := u_ws RJxfd54e TJxfd54e 0
theorem nmJxfd54e : ∀ a, a < 0 → ∀ b, b < 0 → a ≠ b → (TJxfd54e a).2.1 ≠ (TJxfd54e b).2.1 := by decide +kernel
theorem tyJxfd54e_ok : ∀ k, k < 0 → parseFieldDescriptor (TJxfd54e k).2.2.1 = some (tyJxfd54e k) := by decide +kernel
def RJx3cf43 : String := "java/lang/constant/ConstantDesc"
def TJx3cf43 : u_T := fun k => match k with
  | _ => ("", "", "", false)
def tyJx3cf43 : Nat → FieldType := fun k => match k with
  | _ => .int
abbrev wsJx3cf430 : List Cond := u_ws RJx3cf43 TJx3cf43 0
theorem nmJx3cf43 : ∀ a, a < 0 → ∀ b, b < 0 → a ≠ b → (TJx3cf43 a).2.1 ≠ (TJx3cf43 b).2.1 := by decide +kernel
theorem tyJx3cf43_ok : ∀ k, k < 0 → parseFieldDescriptor (TJx3cf43 k).2.2.1 = some (tyJx3cf43 k) := by decide +kernel
def RJ7 : String := "java/util/Arrays"
def TJ7 : u_T := fun k => match k with
  | _ => ("", "", "", false)
def tyJ7 : Nat → FieldType := fun k => match k with
  | _ => .int
abbrev wsJ70 : List Cond := u_ws RJ7 TJ7 0
theorem nmJ7 : ∀ a, a < 0 → ∀ b, b < 0 → a ≠ b → (TJ7 a).2.1 ≠ (TJ7 b).2.1 := by decide +kernel
theorem tyJ7_ok : ∀ k, k < 0 → parseFieldDescriptor (TJ7 k).2.2.1 = some (tyJ7 k) := by decide +kernel
abbrev cJ7_fill_d0a16 : ByteArray := prog_21_method_101_code
def yJ7_fill_d0a16 : MethodName := ⟨RJ7, "fill", "([JJ)V"⟩
abbrev cJ7_fill_53178 : ByteArray := prog_21_method_103_code
def yJ7_fill_53178 : MethodName := ⟨RJ7, "fill", "([II)V"⟩
def RJ3 : String := "jdk/internal/util/Preconditions"
def TJ3 : u_T := fun k => match k with
  | _ => ("", "", "", false)
def tyJ3 : Nat → FieldType := fun k => match k with
  | _ => .int
abbrev wsJ30 : List Cond := u_ws RJ3 TJ3 0
theorem nmJ3 : ∀ a, a < 0 → ∀ b, b < 0 → a ≠ b → (TJ3 a).2.1 ≠ (TJ3 b).2.1 := by decide +kernel
theorem tyJ3_ok : ∀ k, k < 0 → parseFieldDescriptor (TJ3 k).2.2.1 = some (tyJ3 k) := by decide +kernel
abbrev cJ3_checkIndex_8e157 : ByteArray := prog_22_method_11_code
def yJ3_checkIndex_8e157 : MethodName := ⟨RJ3, "checkIndex", "(IILjava/util/function/BiFunction;)I"⟩
def RL : String := "LadleKingsLaw"
abbrev cL_law : ByteArray := code
def yL_law : MethodName := ⟨RL, "law", "([I)Z"⟩
def wsX0_init : List Cond := Cond.code yX0_init cX0_init 2 none :: ([Cond.methodLink RX0 3 objectInit, Cond.instanceMethod objectInit, Cond.code objectInit ⟨#[0xb1]⟩ 1 none, Cond.fieldLink RX0 9 "LadleKings$Coups" "kitchen" "LLadleKings$Kitchen;"] ++ wsX00)
def wsX2_placeOf : List Cond := Cond.code yX2_placeOf cX2_placeOf 3 (some .int) :: ([Cond.fieldLink RX2 9 "LadleKings$Kitchen" "places" "[I"] ++ wsX20)
def wsX2_bowlOf : List Cond := Cond.code yX2_bowlOf cX2_bowlOf 3 (some .int) :: ([Cond.fieldLink RX2 18 "LadleKings$Kitchen" "stirred" "[I", Cond.methodLink RX2 56 yX2_placeOf, Cond.instanceMethod yX2_placeOf, Cond.selects RX2 yX2_placeOf yX2_placeOf, Cond.initialized RX2, Cond.code yX2_placeOf cX2_placeOf 3 (some .int), Cond.fieldLink RX2 9 "LadleKings$Kitchen" "places" "[I"] ++ wsX20)
def wsX0_whoRise : List Cond := Cond.code yX0_whoRise cX0_whoRise 5 (some .int) :: ([Cond.fieldLink RX0 9 "LadleKings$Coups" "kitchen" "LLadleKings$Kitchen;", Cond.fieldLink RX0 15 "LadleKings$Kitchen" "rules" "LLadleKings$Rules;", Cond.fieldLink RX0 21 "LadleKings$Rules" "seats" "I", Cond.methodLink RX0 39 yX2_bowlOf, Cond.instanceMethod yX2_bowlOf, Cond.selects RX2 yX2_bowlOf yX2_bowlOf, Cond.initialized RX2, Cond.code yX2_bowlOf cX2_bowlOf 3 (some .int), Cond.fieldLink RX2 18 "LadleKings$Kitchen" "stirred" "[I", Cond.methodLink RX2 56 yX2_placeOf, Cond.instanceMethod yX2_placeOf, Cond.selects RX2 yX2_placeOf yX2_placeOf, Cond.code yX2_placeOf cX2_placeOf 3 (some .int), Cond.fieldLink RX2 9 "LadleKings$Kitchen" "places" "[I"] ++ wsX00 ++ wsX20 ++ wsX60)
def wsX0_isEnough : List Cond := Cond.code yX0_isEnough cX0_isEnough 5 (some .boolean) :: ([Cond.fieldLink RX0 9 "LadleKings$Coups" "kitchen" "LLadleKings$Kitchen;", Cond.fieldLink RX0 15 "LadleKings$Kitchen" "rules" "LLadleKings$Rules;", Cond.fieldLink RX0 21 "LadleKings$Rules" "seats" "I", Cond.fieldLink RX0 42 "LadleKings$Kitchen" "state" "LLadleKings$State;", Cond.fieldLink RX0 46 "LadleKings$State" "spoons" "[I"] ++ wsX00 ++ wsX20 ++ wsX60 ++ wsX80)
def wsX0_canLead_r1 : List Cond := [Cond.methodLink RX0 31 yX0_whoRise, Cond.instanceMethod yX0_whoRise, Cond.selects RX0 yX0_whoRise yX0_whoRise, Cond.initialized RX0, Cond.code yX0_whoRise cX0_whoRise 5 (some .int), Cond.fieldLink RX0 9 "LadleKings$Coups" "kitchen" "LLadleKings$Kitchen;", Cond.fieldLink RX0 15 "LadleKings$Kitchen" "rules" "LLadleKings$Rules;", Cond.fieldLink RX0 21 "LadleKings$Rules" "seats" "I", Cond.methodLink RX0 39 yX2_bowlOf, Cond.instanceMethod yX2_bowlOf, Cond.selects RX2 yX2_bowlOf yX2_bowlOf, Cond.initialized RX2, Cond.code yX2_bowlOf cX2_bowlOf 3 (some .int), Cond.fieldLink RX2 18 "LadleKings$Kitchen" "stirred" "[I", Cond.methodLink RX2 56 yX2_placeOf, Cond.instanceMethod yX2_placeOf, Cond.selects RX2 yX2_placeOf yX2_placeOf, Cond.code yX2_placeOf cX2_placeOf 3 (some .int), Cond.fieldLink RX2 9 "LadleKings$Kitchen" "places" "[I", Cond.methodLink RX0 35 yX0_isEnough, Cond.instanceMethod yX0_isEnough, Cond.selects RX0 yX0_isEnough yX0_isEnough, Cond.code yX0_isEnough cX0_isEnough 5 (some .boolean), Cond.fieldLink RX0 42 "LadleKings$Kitchen" "state" "LLadleKings$State;"]
def wsX0_canLead_r2 : List Cond := [Cond.fieldLink RX0 46 "LadleKings$State" "spoons" "[I"]
def wsX0_canLead : List Cond := Cond.code yX0_canLead cX0_canLead 4 (some .boolean) :: ((wsX0_canLead_r1 ++ wsX0_canLead_r2) ++ wsX00 ++ wsX20 ++ wsX60 ++ wsX80)
def wsX0_leastLeader_r1 : List Cond := [Cond.fieldLink RX0 9 "LadleKings$Coups" "kitchen" "LLadleKings$Kitchen;", Cond.fieldLink RX0 15 "LadleKings$Kitchen" "rules" "LLadleKings$Rules;", Cond.fieldLink RX0 21 "LadleKings$Rules" "seats" "I", Cond.methodLink RX0 27 yX0_canLead, Cond.instanceMethod yX0_canLead, Cond.selects RX0 yX0_canLead yX0_canLead, Cond.initialized RX0, Cond.code yX0_canLead cX0_canLead 4 (some .boolean), Cond.methodLink RX0 31 yX0_whoRise, Cond.instanceMethod yX0_whoRise, Cond.selects RX0 yX0_whoRise yX0_whoRise, Cond.code yX0_whoRise cX0_whoRise 5 (some .int), Cond.methodLink RX0 39 yX2_bowlOf, Cond.instanceMethod yX2_bowlOf, Cond.selects RX2 yX2_bowlOf yX2_bowlOf, Cond.initialized RX2, Cond.code yX2_bowlOf cX2_bowlOf 3 (some .int), Cond.fieldLink RX2 18 "LadleKings$Kitchen" "stirred" "[I", Cond.methodLink RX2 56 yX2_placeOf, Cond.instanceMethod yX2_placeOf, Cond.selects RX2 yX2_placeOf yX2_placeOf, Cond.code yX2_placeOf cX2_placeOf 3 (some .int), Cond.fieldLink RX2 9 "LadleKings$Kitchen" "places" "[I", Cond.methodLink RX0 35 yX0_isEnough]
def wsX0_leastLeader_r2 : List Cond := [Cond.instanceMethod yX0_isEnough, Cond.selects RX0 yX0_isEnough yX0_isEnough, Cond.code yX0_isEnough cX0_isEnough 5 (some .boolean), Cond.fieldLink RX0 42 "LadleKings$Kitchen" "state" "LLadleKings$State;", Cond.fieldLink RX0 46 "LadleKings$State" "spoons" "[I"]
def wsX0_leastLeader : List Cond := Cond.code yX0_leastLeader cX0_leastLeader 3 (some .int) :: ((wsX0_leastLeader_r1 ++ wsX0_leastLeader_r2) ++ wsX00 ++ wsX20 ++ wsX60 ++ wsX80)
def wsX0_leastBand_r1 : List Cond := [Cond.fieldLink RX0 9 "LadleKings$Coups" "kitchen" "LLadleKings$Kitchen;", Cond.fieldLink RX0 15 "LadleKings$Kitchen" "rules" "LLadleKings$Rules;", Cond.fieldLink RX0 21 "LadleKings$Rules" "seats" "I", Cond.methodLink RX0 31 yX0_whoRise, Cond.instanceMethod yX0_whoRise, Cond.selects RX0 yX0_whoRise yX0_whoRise, Cond.initialized RX0, Cond.code yX0_whoRise cX0_whoRise 5 (some .int), Cond.methodLink RX0 39 yX2_bowlOf, Cond.instanceMethod yX2_bowlOf, Cond.selects RX2 yX2_bowlOf yX2_bowlOf, Cond.initialized RX2, Cond.code yX2_bowlOf cX2_bowlOf 3 (some .int), Cond.fieldLink RX2 18 "LadleKings$Kitchen" "stirred" "[I", Cond.methodLink RX2 56 yX2_placeOf, Cond.instanceMethod yX2_placeOf, Cond.selects RX2 yX2_placeOf yX2_placeOf, Cond.code yX2_placeOf cX2_placeOf 3 (some .int), Cond.fieldLink RX2 9 "LadleKings$Kitchen" "places" "[I", Cond.methodLink RX0 35 yX0_isEnough, Cond.instanceMethod yX0_isEnough, Cond.selects RX0 yX0_isEnough yX0_isEnough, Cond.code yX0_isEnough cX0_isEnough 5 (some .boolean), Cond.fieldLink RX0 42 "LadleKings$Kitchen" "state" "LLadleKings$State;"]
def wsX0_leastBand_r2 : List Cond := [Cond.fieldLink RX0 46 "LadleKings$State" "spoons" "[I"]
def wsX0_leastBand : List Cond := Cond.code yX0_leastBand cX0_leastBand 6 (some .int) :: ((wsX0_leastBand_r1 ++ wsX0_leastBand_r2) ++ wsX00 ++ wsX20 ++ wsX60 ++ wsX80)
def wsX1_init : List Cond := Cond.code yX1_init cX1_init 2 none :: ([Cond.methodLink RX1 3 objectInit, Cond.instanceMethod objectInit, Cond.code objectInit ⟨#[0xb1]⟩ 1 none, Cond.arrayClass .int, Cond.fieldLink RX1 11 "LadleKings$FairDays" "pots" "[I", Cond.fieldLink RX1 15 "LadleKings$FairDays" "sums" "[I", Cond.fieldLink RX1 18 "LadleKings$FairDays" "kings" "[I", Cond.fieldLink RX1 21 "LadleKings$FairDays" "bones" "[I", Cond.fieldLink RX1 24 "LadleKings$FairDays" "row" "[I", Cond.fieldLink RX1 27 "LadleKings$FairDays" "bestRow" "[I", Cond.fieldLink RX1 30 "LadleKings$FairDays" "days" "I", Cond.fieldLink RX1 34 "LadleKings$FairDays" "least" "I", Cond.fieldLink RX1 37 "LadleKings$FairDays" "kitchen" "LLadleKings$Kitchen;"] ++ wsX10)
def wsX6_inRing : List Cond := Cond.code yX6_inRing cX6_inRing 4 (some .int) :: ([Cond.fieldLink RX6 9 "LadleKings$Rules" "seats" "I"] ++ wsX60)
def wsX8_isFriend : List Cond := Cond.code yX8_isFriend cX8_isFriend 3 (some .boolean) :: ([Cond.fieldLink RX8 15 "LadleKings$State" "friends" "[I"] ++ wsX80)
def wsX2_serve : List Cond := Cond.code yX2_serve cX2_serve 7 none :: ([Cond.fieldLink RX2 21 "LadleKings$Kitchen" "rules" "LLadleKings$Rules;", Cond.fieldLink RX2 29 "LadleKings$Rules" "seats" "I", Cond.fieldLink RX2 25 "LadleKings$Kitchen" "state" "LLadleKings$State;", Cond.fieldLink RX2 9 "LadleKings$Kitchen" "places" "[I", Cond.fieldLink RX2 15 "LadleKings$Kitchen" "holders" "[I", Cond.methodLink RX2 35 yX6_inRing, Cond.instanceMethod yX6_inRing, Cond.selects RX6 yX6_inRing yX6_inRing, Cond.initialized RX6, Cond.code yX6_inRing cX6_inRing 4 (some .int), Cond.fieldLink RX6 9 "LadleKings$Rules" "seats" "I", Cond.methodLink RX2 39 yX8_isFriend, Cond.instanceMethod yX8_isFriend, Cond.selects RX8 yX8_isFriend yX8_isFriend, Cond.initialized RX8, Cond.code yX8_isFriend cX8_isFriend 3 (some .boolean), Cond.fieldLink RX8 15 "LadleKings$State" "friends" "[I"] ++ wsX20 ++ wsX60 ++ wsX80)
def wsX2_serveAllKings : List Cond := Cond.code yX2_serveAllKings cX2_serveAllKings 2 none :: ([Cond.fieldLink RX2 21 "LadleKings$Kitchen" "rules" "LLadleKings$Rules;", Cond.fieldLink RX2 29 "LadleKings$Rules" "seats" "I", Cond.methodLink RX2 45 yX2_serve, Cond.instanceMethod yX2_serve, Cond.selects RX2 yX2_serve yX2_serve, Cond.initialized RX2, Cond.code yX2_serve cX2_serve 7 none, Cond.fieldLink RX2 25 "LadleKings$Kitchen" "state" "LLadleKings$State;", Cond.fieldLink RX2 9 "LadleKings$Kitchen" "places" "[I", Cond.fieldLink RX2 15 "LadleKings$Kitchen" "holders" "[I", Cond.methodLink RX2 35 yX6_inRing, Cond.instanceMethod yX6_inRing, Cond.selects RX6 yX6_inRing yX6_inRing, Cond.initialized RX6, Cond.code yX6_inRing cX6_inRing 4 (some .int), Cond.fieldLink RX6 9 "LadleKings$Rules" "seats" "I", Cond.methodLink RX2 39 yX8_isFriend, Cond.instanceMethod yX8_isFriend, Cond.selects RX8 yX8_isFriend yX8_isFriend, Cond.initialized RX8, Cond.code yX8_isFriend cX8_isFriend 3 (some .boolean), Cond.fieldLink RX8 15 "LadleKings$State" "friends" "[I"] ++ wsX20 ++ wsX60 ++ wsX80)
def wsJ7_fill_53178 : List Cond := Cond.code yJ7_fill_53178 cJ7_fill_53178 4 none :: ([])
def wsX1_begin_r1 : List Cond := [Cond.fieldLink RX1 37 "LadleKings$FairDays" "kitchen" "LLadleKings$Kitchen;", Cond.fieldLink RX1 30 "LadleKings$FairDays" "days" "I", Cond.fieldLink RX1 34 "LadleKings$FairDays" "least" "I", Cond.fieldLink RX1 66 "LadleKings$Kitchen" "state" "LLadleKings$State;", Cond.fieldLink RX1 70 "LadleKings$State" "pieces" "[I", Cond.fieldLink RX1 11 "LadleKings$FairDays" "pots" "[I", Cond.fieldLink RX1 75 "LadleKings$Kitchen" "rules" "LLadleKings$Rules;", Cond.fieldLink RX1 79 "LadleKings$Rules" "seats" "I", Cond.methodLink RX1 84 arraycopyName, Cond.native arraycopyName, Cond.static arraycopyName, Cond.initialized "java/lang/System", Cond.fieldLink RX1 15 "LadleKings$FairDays" "sums" "[I", Cond.fieldLink RX1 24 "LadleKings$FairDays" "row" "[I", Cond.fieldLink RX1 18 "LadleKings$FairDays" "kings" "[I", Cond.fieldLink RX1 96 "LadleKings$State" "king" "I", Cond.fieldLink RX1 21 "LadleKings$FairDays" "bones" "[I", Cond.fieldLink RX1 99 "LadleKings$State" "bone" "I", Cond.methodLink RX1 61 yX2_serveAllKings, Cond.instanceMethod yX2_serveAllKings, Cond.selects RX2 yX2_serveAllKings yX2_serveAllKings, Cond.initialized RX2, Cond.code yX2_serveAllKings cX2_serveAllKings 2 none, Cond.fieldLink RX2 21 "LadleKings$Kitchen" "rules" "LLadleKings$Rules;"]
def wsX1_begin_r2 : List Cond := [Cond.fieldLink RX2 29 "LadleKings$Rules" "seats" "I", Cond.methodLink RX2 45 yX2_serve, Cond.instanceMethod yX2_serve, Cond.selects RX2 yX2_serve yX2_serve, Cond.code yX2_serve cX2_serve 7 none, Cond.fieldLink RX2 25 "LadleKings$Kitchen" "state" "LLadleKings$State;", Cond.fieldLink RX2 9 "LadleKings$Kitchen" "places" "[I", Cond.fieldLink RX2 15 "LadleKings$Kitchen" "holders" "[I", Cond.methodLink RX2 35 yX6_inRing, Cond.instanceMethod yX6_inRing, Cond.selects RX6 yX6_inRing yX6_inRing, Cond.initialized RX6, Cond.code yX6_inRing cX6_inRing 4 (some .int), Cond.fieldLink RX6 9 "LadleKings$Rules" "seats" "I", Cond.methodLink RX2 39 yX8_isFriend, Cond.instanceMethod yX8_isFriend, Cond.selects RX8 yX8_isFriend yX8_isFriend, Cond.initialized RX8, Cond.code yX8_isFriend cX8_isFriend 3 (some .boolean), Cond.fieldLink RX8 15 "LadleKings$State" "friends" "[I", Cond.methodLink RX1 90 yJ7_fill_53178, Cond.static yJ7_fill_53178, Cond.initialized RJ7, Cond.code yJ7_fill_53178 cJ7_fill_53178 4 none]
def wsX1_begin : List Cond := Cond.code yX1_begin cX1_begin 2 none :: ((wsX1_begin_r1 ++ wsX1_begin_r2) ++ wsX10 ++ wsX20 ++ wsX80 ++ wsX60)
def wsX6_placeAfter : List Cond := Cond.code yX6_placeAfter cX6_placeAfter 3 (some .int) :: ([Cond.fieldLink RX6 31 "LadleKings$Rules" "after" "[I"] ++ wsX60)
def wsX2_holderOf : List Cond := Cond.code yX2_holderOf cX2_holderOf 3 (some .int) :: ([Cond.fieldLink RX2 15 "LadleKings$Kitchen" "holders" "[I"] ++ wsX20)
def wsX1_goOn_r1 : List Cond := [Cond.fieldLink RX1 24 "LadleKings$FairDays" "row" "[I", Cond.fieldLink RX1 18 "LadleKings$FairDays" "kings" "[I", Cond.fieldLink RX1 37 "LadleKings$FairDays" "kitchen" "LLadleKings$Kitchen;", Cond.fieldLink RX1 75 "LadleKings$Kitchen" "rules" "LLadleKings$Rules;", Cond.fieldLink RX1 79 "LadleKings$Rules" "seats" "I", Cond.fieldLink RX1 11 "LadleKings$FairDays" "pots" "[I", Cond.fieldLink RX1 15 "LadleKings$FairDays" "sums" "[I", Cond.fieldLink RX1 21 "LadleKings$FairDays" "bones" "[I", Cond.methodLink RX1 102 yX6_placeAfter, Cond.instanceMethod yX6_placeAfter, Cond.selects RX6 yX6_placeAfter yX6_placeAfter, Cond.initialized RX6, Cond.code yX6_placeAfter cX6_placeAfter 3 (some .int), Cond.fieldLink RX6 31 "LadleKings$Rules" "after" "[I", Cond.methodLink RX1 105 yX2_placeOf, Cond.instanceMethod yX2_placeOf, Cond.selects RX2 yX2_placeOf yX2_placeOf, Cond.initialized RX2, Cond.code yX2_placeOf cX2_placeOf 3 (some .int), Cond.fieldLink RX2 9 "LadleKings$Kitchen" "places" "[I", Cond.methodLink RX1 108 yX2_holderOf, Cond.instanceMethod yX2_holderOf, Cond.selects RX2 yX2_holderOf yX2_holderOf, Cond.code yX2_holderOf cX2_holderOf 3 (some .int)]
def wsX1_goOn_r2 : List Cond := [Cond.fieldLink RX2 15 "LadleKings$Kitchen" "holders" "[I"]
def wsX1_goOn : List Cond := Cond.code yX1_goOn cX1_goOn 7 none :: ((wsX1_goOn_r1 ++ wsX1_goOn_r2) ++ wsX10 ++ wsX20 ++ wsX60)
def wsX1_weigh : List Cond := Cond.code yX1_weigh cX1_weigh 4 none :: ([Cond.fieldLink RX1 15 "LadleKings$FairDays" "sums" "[I", Cond.fieldLink RX1 30 "LadleKings$FairDays" "days" "I", Cond.fieldLink RX1 37 "LadleKings$FairDays" "kitchen" "LLadleKings$Kitchen;", Cond.fieldLink RX1 75 "LadleKings$Kitchen" "rules" "LLadleKings$Rules;", Cond.fieldLink RX1 79 "LadleKings$Rules" "seats" "I", Cond.methodLink RX1 111 Lib.Math.max.name, Cond.static Lib.Math.max.name, Cond.initialized "java/lang/Math", Cond.code Lib.Math.max.name Lib.Math.max.code 2 (some .int), Cond.methodLink RX1 41 Lib.Math.min.name, Cond.static Lib.Math.min.name, Cond.code Lib.Math.min.name Lib.Math.min.code 2 (some .int), Cond.fieldLink RX1 34 "LadleKings$FairDays" "least" "I", Cond.fieldLink RX1 24 "LadleKings$FairDays" "row" "[I", Cond.fieldLink RX1 27 "LadleKings$FairDays" "bestRow" "[I", Cond.methodLink RX1 84 arraycopyName, Cond.native arraycopyName, Cond.static arraycopyName, Cond.initialized "java/lang/System"] ++ wsX10 ++ wsX20 ++ wsX60)
def wsX1_nextRow : List Cond := Cond.code yX1_nextRow cX1_nextRow 2 (some .int) :: ([Cond.fieldLink RX1 30 "LadleKings$FairDays" "days" "I", Cond.fieldLink RX1 24 "LadleKings$FairDays" "row" "[I", Cond.fieldLink RX1 37 "LadleKings$FairDays" "kitchen" "LLadleKings$Kitchen;", Cond.fieldLink RX1 75 "LadleKings$Kitchen" "rules" "LLadleKings$Rules;", Cond.fieldLink RX1 114 "LadleKings$Rules" "stirs" "I"] ++ wsX10 ++ wsX20 ++ wsX60)
def wsX1_leastSpread_r1 : List Cond := [Cond.methodLink RX1 41 Lib.Math.min.name, Cond.static Lib.Math.min.name, Cond.initialized "java/lang/Math", Cond.code Lib.Math.min.name Lib.Math.min.code 2 (some .int), Cond.fieldLink RX1 30 "LadleKings$FairDays" "days" "I", Cond.fieldLink RX1 34 "LadleKings$FairDays" "least" "I", Cond.methodLink RX1 47 yX1_begin, Cond.instanceMethod yX1_begin, Cond.selects RX1 yX1_begin yX1_begin, Cond.initialized RX1, Cond.code yX1_begin cX1_begin 2 none, Cond.fieldLink RX1 37 "LadleKings$FairDays" "kitchen" "LLadleKings$Kitchen;", Cond.fieldLink RX1 66 "LadleKings$Kitchen" "state" "LLadleKings$State;", Cond.fieldLink RX1 70 "LadleKings$State" "pieces" "[I", Cond.fieldLink RX1 11 "LadleKings$FairDays" "pots" "[I", Cond.fieldLink RX1 75 "LadleKings$Kitchen" "rules" "LLadleKings$Rules;", Cond.fieldLink RX1 79 "LadleKings$Rules" "seats" "I", Cond.methodLink RX1 84 arraycopyName, Cond.native arraycopyName, Cond.static arraycopyName, Cond.initialized "java/lang/System", Cond.fieldLink RX1 15 "LadleKings$FairDays" "sums" "[I", Cond.fieldLink RX1 24 "LadleKings$FairDays" "row" "[I", Cond.fieldLink RX1 18 "LadleKings$FairDays" "kings" "[I"]
def wsX1_leastSpread_r2 : List Cond := [Cond.fieldLink RX1 96 "LadleKings$State" "king" "I", Cond.fieldLink RX1 21 "LadleKings$FairDays" "bones" "[I", Cond.fieldLink RX1 99 "LadleKings$State" "bone" "I", Cond.methodLink RX1 61 yX2_serveAllKings, Cond.instanceMethod yX2_serveAllKings, Cond.selects RX2 yX2_serveAllKings yX2_serveAllKings, Cond.initialized RX2, Cond.code yX2_serveAllKings cX2_serveAllKings 2 none, Cond.fieldLink RX2 21 "LadleKings$Kitchen" "rules" "LLadleKings$Rules;", Cond.fieldLink RX2 29 "LadleKings$Rules" "seats" "I", Cond.methodLink RX2 45 yX2_serve, Cond.instanceMethod yX2_serve, Cond.selects RX2 yX2_serve yX2_serve, Cond.code yX2_serve cX2_serve 7 none, Cond.fieldLink RX2 25 "LadleKings$Kitchen" "state" "LLadleKings$State;", Cond.fieldLink RX2 9 "LadleKings$Kitchen" "places" "[I", Cond.fieldLink RX2 15 "LadleKings$Kitchen" "holders" "[I", Cond.methodLink RX2 35 yX6_inRing, Cond.instanceMethod yX6_inRing, Cond.selects RX6 yX6_inRing yX6_inRing, Cond.initialized RX6, Cond.code yX6_inRing cX6_inRing 4 (some .int), Cond.fieldLink RX6 9 "LadleKings$Rules" "seats" "I", Cond.methodLink RX2 39 yX8_isFriend]
def wsX1_leastSpread_r3 : List Cond := [Cond.instanceMethod yX8_isFriend, Cond.selects RX8 yX8_isFriend yX8_isFriend, Cond.initialized RX8, Cond.code yX8_isFriend cX8_isFriend 3 (some .boolean), Cond.fieldLink RX8 15 "LadleKings$State" "friends" "[I", Cond.methodLink RX1 90 yJ7_fill_53178, Cond.static yJ7_fill_53178, Cond.initialized RJ7, Cond.code yJ7_fill_53178 cJ7_fill_53178 4 none, Cond.methodLink RX1 51 yX1_goOn, Cond.instanceMethod yX1_goOn, Cond.selects RX1 yX1_goOn yX1_goOn, Cond.code yX1_goOn cX1_goOn 7 none, Cond.methodLink RX1 102 yX6_placeAfter, Cond.instanceMethod yX6_placeAfter, Cond.selects RX6 yX6_placeAfter yX6_placeAfter, Cond.code yX6_placeAfter cX6_placeAfter 3 (some .int), Cond.fieldLink RX6 31 "LadleKings$Rules" "after" "[I", Cond.methodLink RX1 105 yX2_placeOf, Cond.instanceMethod yX2_placeOf, Cond.selects RX2 yX2_placeOf yX2_placeOf, Cond.code yX2_placeOf cX2_placeOf 3 (some .int), Cond.methodLink RX1 108 yX2_holderOf, Cond.instanceMethod yX2_holderOf]
def wsX1_leastSpread_r4 : List Cond := [Cond.selects RX2 yX2_holderOf yX2_holderOf, Cond.code yX2_holderOf cX2_holderOf 3 (some .int), Cond.methodLink RX1 54 yX1_weigh, Cond.instanceMethod yX1_weigh, Cond.selects RX1 yX1_weigh yX1_weigh, Cond.code yX1_weigh cX1_weigh 4 none, Cond.methodLink RX1 111 Lib.Math.max.name, Cond.static Lib.Math.max.name, Cond.code Lib.Math.max.name Lib.Math.max.code 2 (some .int), Cond.fieldLink RX1 27 "LadleKings$FairDays" "bestRow" "[I", Cond.methodLink RX1 57 yX1_nextRow, Cond.instanceMethod yX1_nextRow, Cond.selects RX1 yX1_nextRow yX1_nextRow, Cond.code yX1_nextRow cX1_nextRow 2 (some .int), Cond.fieldLink RX1 114 "LadleKings$Rules" "stirs" "I"]
def wsX1_leastSpread : List Cond := Cond.code yX1_leastSpread cX1_leastSpread 5 (some .int) :: ((wsX1_leastSpread_r1 ++ (wsX1_leastSpread_r2 ++ (wsX1_leastSpread_r3 ++ wsX1_leastSpread_r4))) ++ wsX10 ++ wsX20 ++ wsX80 ++ wsX60)
def wsX2_init : List Cond := Cond.code yX2_init cX2_init 3 none :: ([Cond.methodLink RX2 3 objectInit, Cond.instanceMethod objectInit, Cond.code objectInit ⟨#[0xb1]⟩ 1 none, Cond.arrayClass .int, Cond.fieldLink RX2 9 "LadleKings$Kitchen" "places" "[I", Cond.fieldLink RX2 15 "LadleKings$Kitchen" "holders" "[I", Cond.fieldLink RX2 18 "LadleKings$Kitchen" "stirred" "[I", Cond.fieldLink RX2 21 "LadleKings$Kitchen" "rules" "LLadleKings$Rules;", Cond.fieldLink RX2 25 "LadleKings$Kitchen" "state" "LLadleKings$State;"] ++ wsX20)
def wsX6_stirInto : List Cond := Cond.code yX6_stirInto cX6_stirInto 5 none :: ([Cond.fieldLink RX6 9 "LadleKings$Rules" "seats" "I", Cond.methodLink RX6 61 yX6_placeAfter, Cond.instanceMethod yX6_placeAfter, Cond.selects RX6 yX6_placeAfter yX6_placeAfter, Cond.initialized RX6, Cond.code yX6_placeAfter cX6_placeAfter 3 (some .int), Cond.fieldLink RX6 31 "LadleKings$Rules" "after" "[I"] ++ wsX60)
def wsX2_stirPot : List Cond := Cond.code yX2_stirPot cX2_stirPot 2 none :: ([Cond.fieldLink RX2 21 "LadleKings$Kitchen" "rules" "LLadleKings$Rules;", Cond.fieldLink RX2 25 "LadleKings$Kitchen" "state" "LLadleKings$State;", Cond.fieldLink RX2 49 "LadleKings$State" "pieces" "[I", Cond.fieldLink RX2 18 "LadleKings$Kitchen" "stirred" "[I", Cond.methodLink RX2 52 yX6_stirInto, Cond.instanceMethod yX6_stirInto, Cond.selects RX6 yX6_stirInto yX6_stirInto, Cond.initialized RX6, Cond.code yX6_stirInto cX6_stirInto 5 none, Cond.fieldLink RX6 9 "LadleKings$Rules" "seats" "I", Cond.methodLink RX6 61 yX6_placeAfter, Cond.instanceMethod yX6_placeAfter, Cond.selects RX6 yX6_placeAfter yX6_placeAfter, Cond.code yX6_placeAfter cX6_placeAfter 3 (some .int), Cond.fieldLink RX6 31 "LadleKings$Rules" "after" "[I"] ++ wsX20 ++ wsX80 ++ wsX60)
def wsX2_passDay_r1 : List Cond := [Cond.fieldLink RX2 25 "LadleKings$Kitchen" "state" "LLadleKings$State;", Cond.fieldLink RX2 60 "LadleKings$State" "king" "I", Cond.fieldLink RX2 18 "LadleKings$Kitchen" "stirred" "[I", Cond.fieldLink RX2 49 "LadleKings$State" "pieces" "[I", Cond.fieldLink RX2 21 "LadleKings$Kitchen" "rules" "LLadleKings$Rules;", Cond.fieldLink RX2 29 "LadleKings$Rules" "seats" "I", Cond.methodLink RX2 66 arraycopyName, Cond.native arraycopyName, Cond.static arraycopyName, Cond.initialized "java/lang/System", Cond.fieldLink RX2 72 "LadleKings$State" "bone" "I", Cond.fieldLink RX2 78 "LadleKings$State" "eaten" "[I", Cond.fieldLink RX2 87 "LadleKings$State" "days" "I", Cond.methodLink RX2 45 yX2_serve, Cond.instanceMethod yX2_serve, Cond.selects RX2 yX2_serve yX2_serve, Cond.initialized RX2, Cond.code yX2_serve cX2_serve 7 none, Cond.fieldLink RX2 9 "LadleKings$Kitchen" "places" "[I", Cond.fieldLink RX2 15 "LadleKings$Kitchen" "holders" "[I", Cond.methodLink RX2 35 yX6_inRing, Cond.instanceMethod yX6_inRing, Cond.selects RX6 yX6_inRing yX6_inRing, Cond.initialized RX6]
def wsX2_passDay_r2 : List Cond := [Cond.code yX6_inRing cX6_inRing 4 (some .int), Cond.fieldLink RX6 9 "LadleKings$Rules" "seats" "I", Cond.methodLink RX2 39 yX8_isFriend, Cond.instanceMethod yX8_isFriend, Cond.selects RX8 yX8_isFriend yX8_isFriend, Cond.initialized RX8, Cond.code yX8_isFriend cX8_isFriend 3 (some .boolean), Cond.fieldLink RX8 15 "LadleKings$State" "friends" "[I", Cond.methodLink RX2 63 yX2_stirPot, Cond.instanceMethod yX2_stirPot, Cond.selects RX2 yX2_stirPot yX2_stirPot, Cond.code yX2_stirPot cX2_stirPot 2 none, Cond.methodLink RX2 52 yX6_stirInto, Cond.instanceMethod yX6_stirInto, Cond.selects RX6 yX6_stirInto yX6_stirInto, Cond.code yX6_stirInto cX6_stirInto 5 none, Cond.methodLink RX6 61 yX6_placeAfter, Cond.instanceMethod yX6_placeAfter, Cond.selects RX6 yX6_placeAfter yX6_placeAfter, Cond.code yX6_placeAfter cX6_placeAfter 3 (some .int), Cond.fieldLink RX6 31 "LadleKings$Rules" "after" "[I", Cond.methodLink RX2 75 yX6_placeAfter, Cond.methodLink RX2 81 yX2_bowlOf, Cond.instanceMethod yX2_bowlOf]
def wsX2_passDay_r3 : List Cond := [Cond.selects RX2 yX2_bowlOf yX2_bowlOf, Cond.code yX2_bowlOf cX2_bowlOf 3 (some .int), Cond.methodLink RX2 56 yX2_placeOf, Cond.instanceMethod yX2_placeOf, Cond.selects RX2 yX2_placeOf yX2_placeOf, Cond.code yX2_placeOf cX2_placeOf 3 (some .int), Cond.methodLink RX2 84 yX2_holderOf, Cond.instanceMethod yX2_holderOf, Cond.selects RX2 yX2_holderOf yX2_holderOf, Cond.code yX2_holderOf cX2_holderOf 3 (some .int)]
def wsX2_passDay : List Cond := Cond.code yX2_passDay cX2_passDay 4 none :: ((wsX2_passDay_r1 ++ (wsX2_passDay_r2 ++ wsX2_passDay_r3)) ++ wsX20 ++ wsX80 ++ wsX60)
def wsX3_init : List Cond := Cond.code yX3_init cX3_init 2 none :: ([Cond.methodLink RX3 3 objectInit, Cond.instanceMethod objectInit, Cond.code objectInit ⟨#[0xb1]⟩ 1 none, Cond.arrayClass .long, Cond.fieldLink RX3 11 "LadleKings$Luck" "rows" "[J", Cond.fieldLink RX3 15 "LadleKings$Luck" "later" "[J", Cond.fieldLink RX3 18 "LadleKings$Luck" "finds" "[J", Cond.fieldLink RX3 21 "LadleKings$Luck" "kitchen" "LLadleKings$Kitchen;"] ++ wsX30)
def wsJ7_fill_d0a16 : List Cond := Cond.code yJ7_fill_d0a16 cJ7_fill_d0a16 5 none :: ([])
def wsX3_begin_r1 : List Cond := [Cond.fieldLink RX3 21 "LadleKings$Luck" "kitchen" "LLadleKings$Kitchen;", Cond.fieldLink RX3 11 "LadleKings$Luck" "rows" "[J", Cond.fieldLink RX3 36 "LadleKings$Kitchen" "state" "LLadleKings$State;", Cond.fieldLink RX3 42 "LadleKings$State" "king" "I", Cond.fieldLink RX3 57 "LadleKings$State" "bone" "I", Cond.methodLink RX3 48 yX2_serveAllKings, Cond.instanceMethod yX2_serveAllKings, Cond.selects RX2 yX2_serveAllKings yX2_serveAllKings, Cond.initialized RX2, Cond.code yX2_serveAllKings cX2_serveAllKings 2 none, Cond.fieldLink RX2 21 "LadleKings$Kitchen" "rules" "LLadleKings$Rules;", Cond.fieldLink RX2 29 "LadleKings$Rules" "seats" "I", Cond.methodLink RX2 45 yX2_serve, Cond.instanceMethod yX2_serve, Cond.selects RX2 yX2_serve yX2_serve, Cond.code yX2_serve cX2_serve 7 none, Cond.fieldLink RX2 25 "LadleKings$Kitchen" "state" "LLadleKings$State;", Cond.fieldLink RX2 9 "LadleKings$Kitchen" "places" "[I", Cond.fieldLink RX2 15 "LadleKings$Kitchen" "holders" "[I", Cond.methodLink RX2 35 yX6_inRing, Cond.instanceMethod yX6_inRing, Cond.selects RX6 yX6_inRing yX6_inRing, Cond.initialized RX6, Cond.code yX6_inRing cX6_inRing 4 (some .int)]
def wsX3_begin_r2 : List Cond := [Cond.fieldLink RX6 9 "LadleKings$Rules" "seats" "I", Cond.methodLink RX2 39 yX8_isFriend, Cond.instanceMethod yX8_isFriend, Cond.selects RX8 yX8_isFriend yX8_isFriend, Cond.initialized RX8, Cond.code yX8_isFriend cX8_isFriend 3 (some .boolean), Cond.fieldLink RX8 15 "LadleKings$State" "friends" "[I", Cond.methodLink RX3 51 yJ7_fill_d0a16, Cond.static yJ7_fill_d0a16, Cond.initialized RJ7, Cond.code yJ7_fill_d0a16 cJ7_fill_d0a16 5 none]
def wsX3_begin : List Cond := Cond.code yX3_begin cX3_begin 1 none :: ((wsX3_begin_r1 ++ wsX3_begin_r2) ++ wsX30 ++ wsX20 ++ wsX80 ++ wsX60)
def wsX3_goOnFrom : List Cond := Cond.code yX3_goOnFrom cX3_goOnFrom 7 none :: ([Cond.fieldLink RX3 21 "LadleKings$Luck" "kitchen" "LLadleKings$Kitchen;", Cond.fieldLink RX3 60 "LadleKings$Kitchen" "rules" "LLadleKings$Rules;", Cond.fieldLink RX3 79 "LadleKings$Rules" "stirs" "I", Cond.fieldLink RX3 15 "LadleKings$Luck" "later" "[J", Cond.fieldLink RX3 11 "LadleKings$Luck" "rows" "[J", Cond.methodLink RX3 82 yX6_placeAfter, Cond.instanceMethod yX6_placeAfter, Cond.selects RX6 yX6_placeAfter yX6_placeAfter, Cond.initialized RX6, Cond.code yX6_placeAfter cX6_placeAfter 3 (some .int), Cond.fieldLink RX6 31 "LadleKings$Rules" "after" "[I", Cond.methodLink RX3 86 yX2_holderOf, Cond.instanceMethod yX2_holderOf, Cond.selects RX2 yX2_holderOf yX2_holderOf, Cond.initialized RX2, Cond.code yX2_holderOf cX2_holderOf 3 (some .int), Cond.fieldLink RX2 15 "LadleKings$Kitchen" "holders" "[I"] ++ wsX30 ++ wsX20 ++ wsX60)
def wsX3_goOn_r1 : List Cond := [Cond.fieldLink RX3 15 "LadleKings$Luck" "later" "[J", Cond.fieldLink RX3 21 "LadleKings$Luck" "kitchen" "LLadleKings$Kitchen;", Cond.fieldLink RX3 60 "LadleKings$Kitchen" "rules" "LLadleKings$Rules;", Cond.fieldLink RX3 64 "LadleKings$Rules" "seats" "I", Cond.fieldLink RX3 11 "LadleKings$Luck" "rows" "[J", Cond.methodLink RX3 73 arraycopyName, Cond.native arraycopyName, Cond.static arraycopyName, Cond.initialized "java/lang/System", Cond.methodLink RX3 51 yJ7_fill_d0a16, Cond.static yJ7_fill_d0a16, Cond.initialized RJ7, Cond.code yJ7_fill_d0a16 cJ7_fill_d0a16 5 none, Cond.methodLink RX3 69 yX3_goOnFrom, Cond.instanceMethod yX3_goOnFrom, Cond.selects RX3 yX3_goOnFrom yX3_goOnFrom, Cond.initialized RX3, Cond.code yX3_goOnFrom cX3_goOnFrom 7 none, Cond.fieldLink RX3 79 "LadleKings$Rules" "stirs" "I", Cond.methodLink RX3 82 yX6_placeAfter, Cond.instanceMethod yX6_placeAfter, Cond.selects RX6 yX6_placeAfter yX6_placeAfter, Cond.initialized RX6, Cond.code yX6_placeAfter cX6_placeAfter 3 (some .int)]
def wsX3_goOn_r2 : List Cond := [Cond.fieldLink RX6 31 "LadleKings$Rules" "after" "[I", Cond.methodLink RX3 86 yX2_holderOf, Cond.instanceMethod yX2_holderOf, Cond.selects RX2 yX2_holderOf yX2_holderOf, Cond.initialized RX2, Cond.code yX2_holderOf cX2_holderOf 3 (some .int), Cond.fieldLink RX2 15 "LadleKings$Kitchen" "holders" "[I"]
def wsX3_goOn : List Cond := Cond.code yX3_goOn cX3_goOn 4 none :: ((wsX3_goOn_r1 ++ wsX3_goOn_r2) ++ wsX30 ++ wsX20 ++ wsX60)
def wsX3_rowsWithKing : List Cond := Cond.code yX3_rowsWithKing cX3_rowsWithKing 5 (some .long) :: ([Cond.fieldLink RX3 21 "LadleKings$Luck" "kitchen" "LLadleKings$Kitchen;", Cond.fieldLink RX3 60 "LadleKings$Kitchen" "rules" "LLadleKings$Rules;", Cond.fieldLink RX3 64 "LadleKings$Rules" "seats" "I", Cond.fieldLink RX3 11 "LadleKings$Luck" "rows" "[J"] ++ wsX30 ++ wsX20 ++ wsX60)
def wsX3_rowsToCrown_r1 : List Cond := [Cond.methodLink RX3 25 yX3_begin, Cond.instanceMethod yX3_begin, Cond.selects RX3 yX3_begin yX3_begin, Cond.initialized RX3, Cond.code yX3_begin cX3_begin 1 none, Cond.fieldLink RX3 21 "LadleKings$Luck" "kitchen" "LLadleKings$Kitchen;", Cond.fieldLink RX3 11 "LadleKings$Luck" "rows" "[J", Cond.fieldLink RX3 36 "LadleKings$Kitchen" "state" "LLadleKings$State;", Cond.fieldLink RX3 42 "LadleKings$State" "king" "I", Cond.fieldLink RX3 57 "LadleKings$State" "bone" "I", Cond.methodLink RX3 48 yX2_serveAllKings, Cond.instanceMethod yX2_serveAllKings, Cond.selects RX2 yX2_serveAllKings yX2_serveAllKings, Cond.initialized RX2, Cond.code yX2_serveAllKings cX2_serveAllKings 2 none, Cond.fieldLink RX2 21 "LadleKings$Kitchen" "rules" "LLadleKings$Rules;", Cond.fieldLink RX2 29 "LadleKings$Rules" "seats" "I", Cond.methodLink RX2 45 yX2_serve, Cond.instanceMethod yX2_serve, Cond.selects RX2 yX2_serve yX2_serve, Cond.code yX2_serve cX2_serve 7 none, Cond.fieldLink RX2 25 "LadleKings$Kitchen" "state" "LLadleKings$State;", Cond.fieldLink RX2 9 "LadleKings$Kitchen" "places" "[I", Cond.fieldLink RX2 15 "LadleKings$Kitchen" "holders" "[I"]
def wsX3_rowsToCrown_r2 : List Cond := [Cond.methodLink RX2 35 yX6_inRing, Cond.instanceMethod yX6_inRing, Cond.selects RX6 yX6_inRing yX6_inRing, Cond.initialized RX6, Cond.code yX6_inRing cX6_inRing 4 (some .int), Cond.fieldLink RX6 9 "LadleKings$Rules" "seats" "I", Cond.methodLink RX2 39 yX8_isFriend, Cond.instanceMethod yX8_isFriend, Cond.selects RX8 yX8_isFriend yX8_isFriend, Cond.initialized RX8, Cond.code yX8_isFriend cX8_isFriend 3 (some .boolean), Cond.fieldLink RX8 15 "LadleKings$State" "friends" "[I", Cond.methodLink RX3 51 yJ7_fill_d0a16, Cond.static yJ7_fill_d0a16, Cond.initialized RJ7, Cond.code yJ7_fill_d0a16 cJ7_fill_d0a16 5 none, Cond.methodLink RX3 28 yX3_goOn, Cond.instanceMethod yX3_goOn, Cond.selects RX3 yX3_goOn yX3_goOn, Cond.code yX3_goOn cX3_goOn 4 none, Cond.fieldLink RX3 15 "LadleKings$Luck" "later" "[J", Cond.fieldLink RX3 60 "LadleKings$Kitchen" "rules" "LLadleKings$Rules;", Cond.fieldLink RX3 64 "LadleKings$Rules" "seats" "I", Cond.methodLink RX3 73 arraycopyName]
def wsX3_rowsToCrown_r3 : List Cond := [Cond.native arraycopyName, Cond.static arraycopyName, Cond.initialized "java/lang/System", Cond.methodLink RX3 69 yX3_goOnFrom, Cond.instanceMethod yX3_goOnFrom, Cond.selects RX3 yX3_goOnFrom yX3_goOnFrom, Cond.code yX3_goOnFrom cX3_goOnFrom 7 none, Cond.fieldLink RX3 79 "LadleKings$Rules" "stirs" "I", Cond.methodLink RX3 82 yX6_placeAfter, Cond.instanceMethod yX6_placeAfter, Cond.selects RX6 yX6_placeAfter yX6_placeAfter, Cond.code yX6_placeAfter cX6_placeAfter 3 (some .int), Cond.fieldLink RX6 31 "LadleKings$Rules" "after" "[I", Cond.methodLink RX3 86 yX2_holderOf, Cond.instanceMethod yX2_holderOf, Cond.selects RX2 yX2_holderOf yX2_holderOf, Cond.code yX2_holderOf cX2_holderOf 3 (some .int), Cond.methodLink RX3 32 yX3_rowsWithKing, Cond.instanceMethod yX3_rowsWithKing, Cond.selects RX3 yX3_rowsWithKing yX3_rowsWithKing, Cond.code yX3_rowsWithKing cX3_rowsWithKing 5 (some .long)]
def wsX3_rowsToCrown : List Cond := Cond.code yX3_rowsToCrown cX3_rowsToCrown 4 (some .long) :: ((wsX3_rowsToCrown_r1 ++ (wsX3_rowsToCrown_r2 ++ wsX3_rowsToCrown_r3)) ++ wsX30 ++ wsX20 ++ wsX80 ++ wsX60)
def wsX3_rowsOfReign_r1 : List Cond := [Cond.fieldLink RX3 21 "LadleKings$Luck" "kitchen" "LLadleKings$Kitchen;", Cond.fieldLink RX3 36 "LadleKings$Kitchen" "state" "LLadleKings$State;", Cond.fieldLink RX3 42 "LadleKings$State" "king" "I", Cond.methodLink RX3 25 yX3_begin, Cond.instanceMethod yX3_begin, Cond.selects RX3 yX3_begin yX3_begin, Cond.initialized RX3, Cond.code yX3_begin cX3_begin 1 none, Cond.fieldLink RX3 11 "LadleKings$Luck" "rows" "[J", Cond.fieldLink RX3 57 "LadleKings$State" "bone" "I", Cond.methodLink RX3 48 yX2_serveAllKings, Cond.instanceMethod yX2_serveAllKings, Cond.selects RX2 yX2_serveAllKings yX2_serveAllKings, Cond.initialized RX2, Cond.code yX2_serveAllKings cX2_serveAllKings 2 none, Cond.fieldLink RX2 21 "LadleKings$Kitchen" "rules" "LLadleKings$Rules;", Cond.fieldLink RX2 29 "LadleKings$Rules" "seats" "I", Cond.methodLink RX2 45 yX2_serve, Cond.instanceMethod yX2_serve, Cond.selects RX2 yX2_serve yX2_serve, Cond.code yX2_serve cX2_serve 7 none, Cond.fieldLink RX2 25 "LadleKings$Kitchen" "state" "LLadleKings$State;", Cond.fieldLink RX2 9 "LadleKings$Kitchen" "places" "[I", Cond.fieldLink RX2 15 "LadleKings$Kitchen" "holders" "[I"]
def wsX3_rowsOfReign_r2 : List Cond := [Cond.methodLink RX2 35 yX6_inRing, Cond.instanceMethod yX6_inRing, Cond.selects RX6 yX6_inRing yX6_inRing, Cond.initialized RX6, Cond.code yX6_inRing cX6_inRing 4 (some .int), Cond.fieldLink RX6 9 "LadleKings$Rules" "seats" "I", Cond.methodLink RX2 39 yX8_isFriend, Cond.instanceMethod yX8_isFriend, Cond.selects RX8 yX8_isFriend yX8_isFriend, Cond.initialized RX8, Cond.code yX8_isFriend cX8_isFriend 3 (some .boolean), Cond.fieldLink RX8 15 "LadleKings$State" "friends" "[I", Cond.methodLink RX3 51 yJ7_fill_d0a16, Cond.static yJ7_fill_d0a16, Cond.initialized RJ7, Cond.code yJ7_fill_d0a16 cJ7_fill_d0a16 5 none, Cond.methodLink RX3 28 yX3_goOn, Cond.instanceMethod yX3_goOn, Cond.selects RX3 yX3_goOn yX3_goOn, Cond.code yX3_goOn cX3_goOn 4 none, Cond.fieldLink RX3 15 "LadleKings$Luck" "later" "[J", Cond.fieldLink RX3 60 "LadleKings$Kitchen" "rules" "LLadleKings$Rules;", Cond.fieldLink RX3 64 "LadleKings$Rules" "seats" "I", Cond.methodLink RX3 73 arraycopyName]
def wsX3_rowsOfReign_r3 : List Cond := [Cond.native arraycopyName, Cond.static arraycopyName, Cond.initialized "java/lang/System", Cond.methodLink RX3 69 yX3_goOnFrom, Cond.instanceMethod yX3_goOnFrom, Cond.selects RX3 yX3_goOnFrom yX3_goOnFrom, Cond.code yX3_goOnFrom cX3_goOnFrom 7 none, Cond.fieldLink RX3 79 "LadleKings$Rules" "stirs" "I", Cond.methodLink RX3 82 yX6_placeAfter, Cond.instanceMethod yX6_placeAfter, Cond.selects RX6 yX6_placeAfter yX6_placeAfter, Cond.code yX6_placeAfter cX6_placeAfter 3 (some .int), Cond.fieldLink RX6 31 "LadleKings$Rules" "after" "[I", Cond.methodLink RX3 86 yX2_holderOf, Cond.instanceMethod yX2_holderOf, Cond.selects RX2 yX2_holderOf yX2_holderOf, Cond.code yX2_holderOf cX2_holderOf 3 (some .int), Cond.methodLink RX3 32 yX3_rowsWithKing, Cond.instanceMethod yX3_rowsWithKing, Cond.selects RX3 yX3_rowsWithKing yX3_rowsWithKing, Cond.code yX3_rowsWithKing cX3_rowsWithKing 5 (some .long)]
def wsX3_rowsOfReign : List Cond := Cond.code yX3_rowsOfReign cX3_rowsOfReign 3 (some .long) :: ((wsX3_rowsOfReign_r1 ++ (wsX3_rowsOfReign_r2 ++ wsX3_rowsOfReign_r3)) ++ wsX30 ++ wsX20 ++ wsX80 ++ wsX60)
def wsX3_triesWithFinds : List Cond := Cond.code yX3_triesWithFinds cX3_triesWithFinds 6 (some .long) :: ([Cond.fieldLink RX3 18 "LadleKings$Luck" "finds" "[J", Cond.fieldLink RX3 21 "LadleKings$Luck" "kitchen" "LLadleKings$Kitchen;", Cond.fieldLink RX3 60 "LadleKings$Kitchen" "rules" "LLadleKings$Rules;", Cond.fieldLink RX3 64 "LadleKings$Rules" "seats" "I", Cond.methodLink RX3 51 yJ7_fill_d0a16, Cond.static yJ7_fill_d0a16, Cond.initialized RJ7, Cond.code yJ7_fill_d0a16 cJ7_fill_d0a16 5 none] ++ wsX30 ++ wsX20 ++ wsX60)
def wsX3_power : List Cond := Cond.code yX3_power cX3_power 5 (some .long) :: ([])
def wsX3_greatestDivisor : List Cond := Cond.code yX3_greatestDivisor cX3_greatestDivisor 11 (some .long) :: ([])
def wsX3_part : List Cond := Cond.code yX3_part cX3_part 7 (some .long) :: ([Cond.methodLink RX3 89 yX3_greatestDivisor, Cond.static yX3_greatestDivisor, Cond.initialized RX3, Cond.code yX3_greatestDivisor cX3_greatestDivisor 11 (some .long)])
def wsX4_init : List Cond := Cond.code yX4_init cX4_init 2 none :: ([Cond.methodLink RX4 3 objectInit, Cond.instanceMethod objectInit, Cond.code objectInit ⟨#[0xb1]⟩ 1 none, Cond.arrayClass .int, Cond.fieldLink RX4 9 "LadleKings$Past" "fitting" "[I", Cond.fieldLink RX4 15 "LadleKings$Past" "kitchen" "LLadleKings$Kitchen;"] ++ wsX40)
def wsX4_stirsBringing : List Cond := Cond.code yX4_stirsBringing cX4_stirsBringing 5 (some .int) :: ([Cond.fieldLink RX4 15 "LadleKings$Past" "kitchen" "LLadleKings$Kitchen;", Cond.fieldLink RX4 57 "LadleKings$Kitchen" "rules" "LLadleKings$Rules;", Cond.fieldLink RX4 61 "LadleKings$Rules" "stirs" "I", Cond.methodLink RX4 66 yX6_placeAfter, Cond.instanceMethod yX6_placeAfter, Cond.selects RX6 yX6_placeAfter yX6_placeAfter, Cond.initialized RX6, Cond.code yX6_placeAfter cX6_placeAfter 3 (some .int), Cond.fieldLink RX6 31 "LadleKings$Rules" "after" "[I"] ++ wsX40 ++ wsX20 ++ wsX60)
def wsJ6_bitCount_0f7a4 : List Cond := Cond.code yJ6_bitCount_0f7a4 cJ6_bitCount_0f7a4 1 (some .int) :: ([Cond.constant RJ6 265 (1431655765), Cond.constant RJ6 266 (858993459), Cond.constant RJ6 267 (252645135)])
def wsX4_howMany_r1 : List Cond := [Cond.fieldLink RX4 15 "LadleKings$Past" "kitchen" "LLadleKings$Kitchen;", Cond.fieldLink RX4 19 "LadleKings$Kitchen" "state" "LLadleKings$State;", Cond.fieldLink RX4 25 "LadleKings$State" "king" "I", Cond.fieldLink RX4 31 "LadleKings$State" "bone" "I", Cond.fieldLink RX4 34 "LadleKings$State" "seenDays" "I", Cond.fieldLink RX4 37 "LadleKings$State" "seen" "[I", Cond.fieldLink RX4 9 "LadleKings$Past" "fitting" "[I", Cond.methodLink RX4 40 yX2_serve, Cond.instanceMethod yX2_serve, Cond.selects RX2 yX2_serve yX2_serve, Cond.initialized RX2, Cond.code yX2_serve cX2_serve 7 none, Cond.fieldLink RX2 21 "LadleKings$Kitchen" "rules" "LLadleKings$Rules;", Cond.fieldLink RX2 29 "LadleKings$Rules" "seats" "I", Cond.fieldLink RX2 25 "LadleKings$Kitchen" "state" "LLadleKings$State;", Cond.fieldLink RX2 9 "LadleKings$Kitchen" "places" "[I", Cond.fieldLink RX2 15 "LadleKings$Kitchen" "holders" "[I", Cond.methodLink RX2 35 yX6_inRing, Cond.instanceMethod yX6_inRing, Cond.selects RX6 yX6_inRing yX6_inRing, Cond.initialized RX6, Cond.code yX6_inRing cX6_inRing 4 (some .int), Cond.fieldLink RX6 9 "LadleKings$Rules" "seats" "I", Cond.methodLink RX2 39 yX8_isFriend]
def wsX4_howMany_r2 : List Cond := [Cond.instanceMethod yX8_isFriend, Cond.selects RX8 yX8_isFriend yX8_isFriend, Cond.initialized RX8, Cond.code yX8_isFriend cX8_isFriend 3 (some .boolean), Cond.fieldLink RX8 15 "LadleKings$State" "friends" "[I", Cond.methodLink RX4 44 yX2_placeOf, Cond.instanceMethod yX2_placeOf, Cond.selects RX2 yX2_placeOf yX2_placeOf, Cond.code yX2_placeOf cX2_placeOf 3 (some .int), Cond.methodLink RX4 48 yX4_stirsBringing, Cond.instanceMethod yX4_stirsBringing, Cond.selects RX4 yX4_stirsBringing yX4_stirsBringing, Cond.initialized RX4, Cond.code yX4_stirsBringing cX4_stirsBringing 5 (some .int), Cond.fieldLink RX4 57 "LadleKings$Kitchen" "rules" "LLadleKings$Rules;", Cond.fieldLink RX4 61 "LadleKings$Rules" "stirs" "I", Cond.methodLink RX4 66 yX6_placeAfter, Cond.instanceMethod yX6_placeAfter, Cond.selects RX6 yX6_placeAfter yX6_placeAfter, Cond.code yX6_placeAfter cX6_placeAfter 3 (some .int), Cond.fieldLink RX6 31 "LadleKings$Rules" "after" "[I", Cond.methodLink RX4 51 yJ6_bitCount_0f7a4, Cond.static yJ6_bitCount_0f7a4, Cond.initialized RJ6]
def wsX4_howMany_r3 : List Cond := [Cond.code yJ6_bitCount_0f7a4 cJ6_bitCount_0f7a4 1 (some .int), Cond.constant RJ6 265 (1431655765), Cond.constant RJ6 266 (858993459), Cond.constant RJ6 267 (252645135)]
def wsX4_howMany : List Cond := Cond.code yX4_howMany cX4_howMany 7 (some .int) :: ((wsX4_howMany_r1 ++ (wsX4_howMany_r2 ++ wsX4_howMany_r3)) ++ wsX40 ++ wsX20 ++ wsX80 ++ wsX60)
def wsX4_stirsOfDay_r1 : List Cond := [Cond.fieldLink RX4 15 "LadleKings$Past" "kitchen" "LLadleKings$Kitchen;", Cond.fieldLink RX4 19 "LadleKings$Kitchen" "state" "LLadleKings$State;", Cond.fieldLink RX4 34 "LadleKings$State" "seenDays" "I", Cond.fieldLink RX4 9 "LadleKings$Past" "fitting" "[I", Cond.methodLink RX4 69 yX4_howMany, Cond.instanceMethod yX4_howMany, Cond.selects RX4 yX4_howMany yX4_howMany, Cond.initialized RX4, Cond.code yX4_howMany cX4_howMany 7 (some .int), Cond.fieldLink RX4 25 "LadleKings$State" "king" "I", Cond.fieldLink RX4 31 "LadleKings$State" "bone" "I", Cond.fieldLink RX4 37 "LadleKings$State" "seen" "[I", Cond.methodLink RX4 40 yX2_serve, Cond.instanceMethod yX2_serve, Cond.selects RX2 yX2_serve yX2_serve, Cond.initialized RX2, Cond.code yX2_serve cX2_serve 7 none, Cond.fieldLink RX2 21 "LadleKings$Kitchen" "rules" "LLadleKings$Rules;", Cond.fieldLink RX2 29 "LadleKings$Rules" "seats" "I", Cond.fieldLink RX2 25 "LadleKings$Kitchen" "state" "LLadleKings$State;", Cond.fieldLink RX2 9 "LadleKings$Kitchen" "places" "[I", Cond.fieldLink RX2 15 "LadleKings$Kitchen" "holders" "[I", Cond.methodLink RX2 35 yX6_inRing, Cond.instanceMethod yX6_inRing]
def wsX4_stirsOfDay_r2 : List Cond := [Cond.selects RX6 yX6_inRing yX6_inRing, Cond.initialized RX6, Cond.code yX6_inRing cX6_inRing 4 (some .int), Cond.fieldLink RX6 9 "LadleKings$Rules" "seats" "I", Cond.methodLink RX2 39 yX8_isFriend, Cond.instanceMethod yX8_isFriend, Cond.selects RX8 yX8_isFriend yX8_isFriend, Cond.initialized RX8, Cond.code yX8_isFriend cX8_isFriend 3 (some .boolean), Cond.fieldLink RX8 15 "LadleKings$State" "friends" "[I", Cond.methodLink RX4 44 yX2_placeOf, Cond.instanceMethod yX2_placeOf, Cond.selects RX2 yX2_placeOf yX2_placeOf, Cond.code yX2_placeOf cX2_placeOf 3 (some .int), Cond.methodLink RX4 48 yX4_stirsBringing, Cond.instanceMethod yX4_stirsBringing, Cond.selects RX4 yX4_stirsBringing yX4_stirsBringing, Cond.code yX4_stirsBringing cX4_stirsBringing 5 (some .int), Cond.fieldLink RX4 57 "LadleKings$Kitchen" "rules" "LLadleKings$Rules;", Cond.fieldLink RX4 61 "LadleKings$Rules" "stirs" "I", Cond.methodLink RX4 66 yX6_placeAfter, Cond.instanceMethod yX6_placeAfter, Cond.selects RX6 yX6_placeAfter yX6_placeAfter, Cond.code yX6_placeAfter cX6_placeAfter 3 (some .int)]
def wsX4_stirsOfDay_r3 : List Cond := [Cond.fieldLink RX6 31 "LadleKings$Rules" "after" "[I", Cond.methodLink RX4 51 yJ6_bitCount_0f7a4, Cond.static yJ6_bitCount_0f7a4, Cond.initialized RJ6, Cond.code yJ6_bitCount_0f7a4 cJ6_bitCount_0f7a4 1 (some .int), Cond.constant RJ6 265 (1431655765), Cond.constant RJ6 266 (858993459), Cond.constant RJ6 267 (252645135)]
def wsX4_stirsOfDay : List Cond := Cond.code yX4_stirsOfDay cX4_stirsOfDay 3 (some .int) :: ((wsX4_stirsOfDay_r1 ++ (wsX4_stirsOfDay_r2 ++ wsX4_stirsOfDay_r3)) ++ wsX40 ++ wsX20 ++ wsX80 ++ wsX60)
def wsX4_firstStirOfDay_r1 : List Cond := [Cond.fieldLink RX4 15 "LadleKings$Past" "kitchen" "LLadleKings$Kitchen;", Cond.fieldLink RX4 57 "LadleKings$Kitchen" "rules" "LLadleKings$Rules;", Cond.fieldLink RX4 61 "LadleKings$Rules" "stirs" "I", Cond.methodLink RX4 73 yX4_stirsOfDay, Cond.instanceMethod yX4_stirsOfDay, Cond.selects RX4 yX4_stirsOfDay yX4_stirsOfDay, Cond.initialized RX4, Cond.code yX4_stirsOfDay cX4_stirsOfDay 3 (some .int), Cond.fieldLink RX4 19 "LadleKings$Kitchen" "state" "LLadleKings$State;", Cond.fieldLink RX4 34 "LadleKings$State" "seenDays" "I", Cond.fieldLink RX4 9 "LadleKings$Past" "fitting" "[I", Cond.methodLink RX4 69 yX4_howMany, Cond.instanceMethod yX4_howMany, Cond.selects RX4 yX4_howMany yX4_howMany, Cond.code yX4_howMany cX4_howMany 7 (some .int), Cond.fieldLink RX4 25 "LadleKings$State" "king" "I", Cond.fieldLink RX4 31 "LadleKings$State" "bone" "I", Cond.fieldLink RX4 37 "LadleKings$State" "seen" "[I", Cond.methodLink RX4 40 yX2_serve, Cond.instanceMethod yX2_serve, Cond.selects RX2 yX2_serve yX2_serve, Cond.initialized RX2, Cond.code yX2_serve cX2_serve 7 none, Cond.fieldLink RX2 21 "LadleKings$Kitchen" "rules" "LLadleKings$Rules;"]
def wsX4_firstStirOfDay_r2 : List Cond := [Cond.fieldLink RX2 29 "LadleKings$Rules" "seats" "I", Cond.fieldLink RX2 25 "LadleKings$Kitchen" "state" "LLadleKings$State;", Cond.fieldLink RX2 9 "LadleKings$Kitchen" "places" "[I", Cond.fieldLink RX2 15 "LadleKings$Kitchen" "holders" "[I", Cond.methodLink RX2 35 yX6_inRing, Cond.instanceMethod yX6_inRing, Cond.selects RX6 yX6_inRing yX6_inRing, Cond.initialized RX6, Cond.code yX6_inRing cX6_inRing 4 (some .int), Cond.fieldLink RX6 9 "LadleKings$Rules" "seats" "I", Cond.methodLink RX2 39 yX8_isFriend, Cond.instanceMethod yX8_isFriend, Cond.selects RX8 yX8_isFriend yX8_isFriend, Cond.initialized RX8, Cond.code yX8_isFriend cX8_isFriend 3 (some .boolean), Cond.fieldLink RX8 15 "LadleKings$State" "friends" "[I", Cond.methodLink RX4 44 yX2_placeOf, Cond.instanceMethod yX2_placeOf, Cond.selects RX2 yX2_placeOf yX2_placeOf, Cond.code yX2_placeOf cX2_placeOf 3 (some .int), Cond.methodLink RX4 48 yX4_stirsBringing, Cond.instanceMethod yX4_stirsBringing, Cond.selects RX4 yX4_stirsBringing yX4_stirsBringing, Cond.code yX4_stirsBringing cX4_stirsBringing 5 (some .int)]
def wsX4_firstStirOfDay_r3 : List Cond := [Cond.methodLink RX4 66 yX6_placeAfter, Cond.instanceMethod yX6_placeAfter, Cond.selects RX6 yX6_placeAfter yX6_placeAfter, Cond.code yX6_placeAfter cX6_placeAfter 3 (some .int), Cond.fieldLink RX6 31 "LadleKings$Rules" "after" "[I", Cond.methodLink RX4 51 yJ6_bitCount_0f7a4, Cond.static yJ6_bitCount_0f7a4, Cond.initialized RJ6, Cond.code yJ6_bitCount_0f7a4 cJ6_bitCount_0f7a4 1 (some .int), Cond.constant RJ6 265 (1431655765), Cond.constant RJ6 266 (858993459), Cond.constant RJ6 267 (252645135)]
def wsX4_firstStirOfDay : List Cond := Cond.code yX4_firstStirOfDay cX4_firstStirOfDay 4 (some .int) :: ((wsX4_firstStirOfDay_r1 ++ (wsX4_firstStirOfDay_r2 ++ wsX4_firstStirOfDay_r3)) ++ wsX40 ++ wsX20 ++ wsX60 ++ wsX80)
def wsX5_init : List Cond := Cond.code yX5_init cX5_init 2 none :: ([Cond.methodLink RX5 3 objectInit, Cond.instanceMethod objectInit, Cond.code objectInit ⟨#[0xb1]⟩ 1 none, Cond.arrayClass .long, Cond.fieldLink RX5 9 "LadleKings$Plans" "good" "[J", Cond.arrayClass .int, Cond.fieldLink RX5 15 "LadleKings$Plans" "row" "[I", Cond.fieldLink RX5 19 "LadleKings$Plans" "kitchen" "LLadleKings$Kitchen;"] ++ wsX50)
def wsX5_bitOf : List Cond := Cond.code yX5_bitOf cX5_bitOf 2 (some .long) :: ([])
def wsX5_pairsOfKing : List Cond := Cond.code yX5_pairsOfKing cX5_pairsOfKing 5 (some .long) :: ([Cond.fieldLink RX5 19 "LadleKings$Plans" "kitchen" "LLadleKings$Kitchen;", Cond.fieldLink RX5 48 "LadleKings$Kitchen" "rules" "LLadleKings$Rules;", Cond.fieldLink RX5 52 "LadleKings$Rules" "seats" "I", Cond.methodLink RX5 58 yX5_bitOf, Cond.static yX5_bitOf, Cond.initialized RX5, Cond.code yX5_bitOf cX5_bitOf 2 (some .long)] ++ wsX50 ++ wsX20 ++ wsX60)
def wsX5_allPairs : List Cond := Cond.code yX5_allPairs cX5_allPairs 4 (some .long) :: ([Cond.fieldLink RX5 19 "LadleKings$Plans" "kitchen" "LLadleKings$Kitchen;", Cond.fieldLink RX5 48 "LadleKings$Kitchen" "rules" "LLadleKings$Rules;", Cond.fieldLink RX5 52 "LadleKings$Rules" "seats" "I", Cond.methodLink RX5 44 yX5_pairsOfKing, Cond.instanceMethod yX5_pairsOfKing, Cond.selects RX5 yX5_pairsOfKing yX5_pairsOfKing, Cond.initialized RX5, Cond.code yX5_pairsOfKing cX5_pairsOfKing 5 (some .long), Cond.methodLink RX5 58 yX5_bitOf, Cond.static yX5_bitOf, Cond.code yX5_bitOf cX5_bitOf 2 (some .long)] ++ wsX50 ++ wsX20 ++ wsX60)
def wsX5_firstStirInto : List Cond := Cond.code yX5_firstStirInto cX5_firstStirInto 9 (some .int) :: ([Cond.fieldLink RX5 19 "LadleKings$Plans" "kitchen" "LLadleKings$Kitchen;", Cond.fieldLink RX5 48 "LadleKings$Kitchen" "rules" "LLadleKings$Rules;", Cond.fieldLink RX5 78 "LadleKings$Rules" "stirs" "I", Cond.methodLink RX5 81 yX6_placeAfter, Cond.instanceMethod yX6_placeAfter, Cond.selects RX6 yX6_placeAfter yX6_placeAfter, Cond.initialized RX6, Cond.code yX6_placeAfter cX6_placeAfter 3 (some .int), Cond.fieldLink RX6 31 "LadleKings$Rules" "after" "[I", Cond.methodLink RX5 85 yX2_holderOf, Cond.instanceMethod yX2_holderOf, Cond.selects RX2 yX2_holderOf yX2_holderOf, Cond.initialized RX2, Cond.code yX2_holderOf cX2_holderOf 3 (some .int), Cond.fieldLink RX2 15 "LadleKings$Kitchen" "holders" "[I", Cond.methodLink RX5 58 yX5_bitOf, Cond.static yX5_bitOf, Cond.initialized RX5, Cond.code yX5_bitOf cX5_bitOf 2 (some .long)] ++ wsX50 ++ wsX20 ++ wsX60)
def wsX5_pairsBefore : List Cond := Cond.code yX5_pairsBefore cX5_pairsBefore 8 (some .long) :: ([Cond.fieldLink RX5 19 "LadleKings$Plans" "kitchen" "LLadleKings$Kitchen;", Cond.fieldLink RX5 48 "LadleKings$Kitchen" "rules" "LLadleKings$Rules;", Cond.fieldLink RX5 52 "LadleKings$Rules" "seats" "I", Cond.methodLink RX5 74 yX5_firstStirInto, Cond.instanceMethod yX5_firstStirInto, Cond.selects RX5 yX5_firstStirInto yX5_firstStirInto, Cond.initialized RX5, Cond.code yX5_firstStirInto cX5_firstStirInto 9 (some .int), Cond.fieldLink RX5 78 "LadleKings$Rules" "stirs" "I", Cond.methodLink RX5 81 yX6_placeAfter, Cond.instanceMethod yX6_placeAfter, Cond.selects RX6 yX6_placeAfter yX6_placeAfter, Cond.initialized RX6, Cond.code yX6_placeAfter cX6_placeAfter 3 (some .int), Cond.fieldLink RX6 31 "LadleKings$Rules" "after" "[I", Cond.methodLink RX5 85 yX2_holderOf, Cond.instanceMethod yX2_holderOf, Cond.selects RX2 yX2_holderOf yX2_holderOf, Cond.initialized RX2, Cond.code yX2_holderOf cX2_holderOf 3 (some .int), Cond.fieldLink RX2 15 "LadleKings$Kitchen" "holders" "[I", Cond.methodLink RX5 58 yX5_bitOf, Cond.static yX5_bitOf, Cond.code yX5_bitOf cX5_bitOf 2 (some .long)] ++ wsX50 ++ wsX20 ++ wsX60)
def wsX5_isGoodNow : List Cond := Cond.code yX5_isGoodNow cX5_isGoodNow 2 (some .boolean) :: ([Cond.fieldLink RX5 9 "LadleKings$Plans" "good" "[J", Cond.fieldLink RX5 19 "LadleKings$Plans" "kitchen" "LLadleKings$Kitchen;", Cond.fieldLink RX5 62 "LadleKings$Kitchen" "state" "LLadleKings$State;", Cond.fieldLink RX5 66 "LadleKings$State" "king" "I", Cond.fieldLink RX5 71 "LadleKings$State" "bone" "I", Cond.methodLink RX5 58 yX5_bitOf, Cond.static yX5_bitOf, Cond.initialized RX5, Cond.code yX5_bitOf cX5_bitOf 2 (some .long)] ++ wsX50 ++ wsX20 ++ wsX80)
def wsX6_hasStir : List Cond := Cond.code yX6_hasStir cX6_hasStir 2 (some .boolean) :: ([Cond.fieldLink RX6 15 "LadleKings$Rules" "stirs" "I"] ++ wsX60)
def wsX5_tellRow_r1 : List Cond := [Cond.fieldLink RX5 19 "LadleKings$Plans" "kitchen" "LLadleKings$Kitchen;", Cond.fieldLink RX5 62 "LadleKings$Kitchen" "state" "LLadleKings$State;", Cond.fieldLink RX5 66 "LadleKings$State" "king" "I", Cond.fieldLink RX5 71 "LadleKings$State" "bone" "I", Cond.fieldLink RX5 9 "LadleKings$Plans" "good" "[J", Cond.fieldLink RX5 48 "LadleKings$Kitchen" "rules" "LLadleKings$Rules;", Cond.fieldLink RX5 15 "LadleKings$Plans" "row" "[I", Cond.methodLink RX5 74 yX5_firstStirInto, Cond.instanceMethod yX5_firstStirInto, Cond.selects RX5 yX5_firstStirInto yX5_firstStirInto, Cond.initialized RX5, Cond.code yX5_firstStirInto cX5_firstStirInto 9 (some .int), Cond.fieldLink RX5 78 "LadleKings$Rules" "stirs" "I", Cond.methodLink RX5 81 yX6_placeAfter, Cond.instanceMethod yX6_placeAfter, Cond.selects RX6 yX6_placeAfter yX6_placeAfter, Cond.initialized RX6, Cond.code yX6_placeAfter cX6_placeAfter 3 (some .int), Cond.fieldLink RX6 31 "LadleKings$Rules" "after" "[I", Cond.methodLink RX5 85 yX2_holderOf, Cond.instanceMethod yX2_holderOf, Cond.selects RX2 yX2_holderOf yX2_holderOf, Cond.initialized RX2, Cond.code yX2_holderOf cX2_holderOf 3 (some .int)]
def wsX5_tellRow_r2 : List Cond := [Cond.fieldLink RX2 15 "LadleKings$Kitchen" "holders" "[I", Cond.methodLink RX5 58 yX5_bitOf, Cond.static yX5_bitOf, Cond.code yX5_bitOf cX5_bitOf 2 (some .long), Cond.methodLink RX5 88 yX6_hasStir, Cond.instanceMethod yX6_hasStir, Cond.selects RX6 yX6_hasStir yX6_hasStir, Cond.code yX6_hasStir cX6_hasStir 2 (some .boolean), Cond.fieldLink RX6 15 "LadleKings$Rules" "stirs" "I"]
def wsX5_tellRow : List Cond := Cond.code yX5_tellRow cX5_tellRow 7 none :: ((wsX5_tellRow_r1 ++ wsX5_tellRow_r2) ++ wsX50 ++ wsX20 ++ wsX80 ++ wsX60)
def wsX5_planReign_r1 : List Cond := [Cond.fieldLink RX5 19 "LadleKings$Plans" "kitchen" "LLadleKings$Kitchen;", Cond.fieldLink RX5 9 "LadleKings$Plans" "good" "[J", Cond.methodLink RX5 23 yX2_serveAllKings, Cond.instanceMethod yX2_serveAllKings, Cond.selects RX2 yX2_serveAllKings yX2_serveAllKings, Cond.initialized RX2, Cond.code yX2_serveAllKings cX2_serveAllKings 2 none, Cond.fieldLink RX2 21 "LadleKings$Kitchen" "rules" "LLadleKings$Rules;", Cond.fieldLink RX2 29 "LadleKings$Rules" "seats" "I", Cond.methodLink RX2 45 yX2_serve, Cond.instanceMethod yX2_serve, Cond.selects RX2 yX2_serve yX2_serve, Cond.code yX2_serve cX2_serve 7 none, Cond.fieldLink RX2 25 "LadleKings$Kitchen" "state" "LLadleKings$State;", Cond.fieldLink RX2 9 "LadleKings$Kitchen" "places" "[I", Cond.fieldLink RX2 15 "LadleKings$Kitchen" "holders" "[I", Cond.methodLink RX2 35 yX6_inRing, Cond.instanceMethod yX6_inRing, Cond.selects RX6 yX6_inRing yX6_inRing, Cond.initialized RX6, Cond.code yX6_inRing cX6_inRing 4 (some .int), Cond.fieldLink RX6 9 "LadleKings$Rules" "seats" "I", Cond.methodLink RX2 39 yX8_isFriend, Cond.instanceMethod yX8_isFriend]
def wsX5_planReign_r2 : List Cond := [Cond.selects RX8 yX8_isFriend yX8_isFriend, Cond.initialized RX8, Cond.code yX8_isFriend cX8_isFriend 3 (some .boolean), Cond.fieldLink RX8 15 "LadleKings$State" "friends" "[I", Cond.methodLink RX5 28 yX5_allPairs, Cond.instanceMethod yX5_allPairs, Cond.selects RX5 yX5_allPairs yX5_allPairs, Cond.initialized RX5, Cond.code yX5_allPairs cX5_allPairs 4 (some .long), Cond.fieldLink RX5 48 "LadleKings$Kitchen" "rules" "LLadleKings$Rules;", Cond.fieldLink RX5 52 "LadleKings$Rules" "seats" "I", Cond.methodLink RX5 44 yX5_pairsOfKing, Cond.instanceMethod yX5_pairsOfKing, Cond.selects RX5 yX5_pairsOfKing yX5_pairsOfKing, Cond.code yX5_pairsOfKing cX5_pairsOfKing 5 (some .long), Cond.methodLink RX5 58 yX5_bitOf, Cond.static yX5_bitOf, Cond.code yX5_bitOf cX5_bitOf 2 (some .long), Cond.methodLink RX5 32 yX5_pairsBefore, Cond.instanceMethod yX5_pairsBefore, Cond.selects RX5 yX5_pairsBefore yX5_pairsBefore, Cond.code yX5_pairsBefore cX5_pairsBefore 8 (some .long), Cond.methodLink RX5 74 yX5_firstStirInto, Cond.instanceMethod yX5_firstStirInto]
def wsX5_planReign_r3 : List Cond := [Cond.selects RX5 yX5_firstStirInto yX5_firstStirInto, Cond.code yX5_firstStirInto cX5_firstStirInto 9 (some .int), Cond.fieldLink RX5 78 "LadleKings$Rules" "stirs" "I", Cond.methodLink RX5 81 yX6_placeAfter, Cond.instanceMethod yX6_placeAfter, Cond.selects RX6 yX6_placeAfter yX6_placeAfter, Cond.code yX6_placeAfter cX6_placeAfter 3 (some .int), Cond.fieldLink RX6 31 "LadleKings$Rules" "after" "[I", Cond.methodLink RX5 85 yX2_holderOf, Cond.instanceMethod yX2_holderOf, Cond.selects RX2 yX2_holderOf yX2_holderOf, Cond.code yX2_holderOf cX2_holderOf 3 (some .int), Cond.methodLink RX5 36 yX5_isGoodNow, Cond.instanceMethod yX5_isGoodNow, Cond.selects RX5 yX5_isGoodNow yX5_isGoodNow, Cond.code yX5_isGoodNow cX5_isGoodNow 2 (some .boolean), Cond.fieldLink RX5 62 "LadleKings$Kitchen" "state" "LLadleKings$State;", Cond.fieldLink RX5 66 "LadleKings$State" "king" "I", Cond.fieldLink RX5 71 "LadleKings$State" "bone" "I", Cond.methodLink RX5 40 yX5_tellRow, Cond.instanceMethod yX5_tellRow, Cond.selects RX5 yX5_tellRow yX5_tellRow, Cond.code yX5_tellRow cX5_tellRow 7 none, Cond.fieldLink RX5 15 "LadleKings$Plans" "row" "[I"]
def wsX5_planReign_r4 : List Cond := [Cond.methodLink RX5 88 yX6_hasStir, Cond.instanceMethod yX6_hasStir, Cond.selects RX6 yX6_hasStir yX6_hasStir, Cond.code yX6_hasStir cX6_hasStir 2 (some .boolean), Cond.fieldLink RX6 15 "LadleKings$Rules" "stirs" "I"]
def wsX5_planReign : List Cond := Cond.code yX5_planReign cX5_planReign 4 (some .int) :: ((wsX5_planReign_r1 ++ (wsX5_planReign_r2 ++ (wsX5_planReign_r3 ++ wsX5_planReign_r4))) ++ wsX50 ++ wsX20 ++ wsX60 ++ wsX80)
def wsX5_planRaise_r1 : List Cond := [Cond.fieldLink RX5 19 "LadleKings$Plans" "kitchen" "LLadleKings$Kitchen;", Cond.fieldLink RX5 9 "LadleKings$Plans" "good" "[J", Cond.methodLink RX5 23 yX2_serveAllKings, Cond.instanceMethod yX2_serveAllKings, Cond.selects RX2 yX2_serveAllKings yX2_serveAllKings, Cond.initialized RX2, Cond.code yX2_serveAllKings cX2_serveAllKings 2 none, Cond.fieldLink RX2 21 "LadleKings$Kitchen" "rules" "LLadleKings$Rules;", Cond.fieldLink RX2 29 "LadleKings$Rules" "seats" "I", Cond.methodLink RX2 45 yX2_serve, Cond.instanceMethod yX2_serve, Cond.selects RX2 yX2_serve yX2_serve, Cond.code yX2_serve cX2_serve 7 none, Cond.fieldLink RX2 25 "LadleKings$Kitchen" "state" "LLadleKings$State;", Cond.fieldLink RX2 9 "LadleKings$Kitchen" "places" "[I", Cond.fieldLink RX2 15 "LadleKings$Kitchen" "holders" "[I", Cond.methodLink RX2 35 yX6_inRing, Cond.instanceMethod yX6_inRing, Cond.selects RX6 yX6_inRing yX6_inRing, Cond.initialized RX6, Cond.code yX6_inRing cX6_inRing 4 (some .int), Cond.fieldLink RX6 9 "LadleKings$Rules" "seats" "I", Cond.methodLink RX2 39 yX8_isFriend, Cond.instanceMethod yX8_isFriend]
def wsX5_planRaise_r2 : List Cond := [Cond.selects RX8 yX8_isFriend yX8_isFriend, Cond.initialized RX8, Cond.code yX8_isFriend cX8_isFriend 3 (some .boolean), Cond.fieldLink RX8 15 "LadleKings$State" "friends" "[I", Cond.methodLink RX5 44 yX5_pairsOfKing, Cond.instanceMethod yX5_pairsOfKing, Cond.selects RX5 yX5_pairsOfKing yX5_pairsOfKing, Cond.initialized RX5, Cond.code yX5_pairsOfKing cX5_pairsOfKing 5 (some .long), Cond.fieldLink RX5 48 "LadleKings$Kitchen" "rules" "LLadleKings$Rules;", Cond.fieldLink RX5 52 "LadleKings$Rules" "seats" "I", Cond.methodLink RX5 58 yX5_bitOf, Cond.static yX5_bitOf, Cond.code yX5_bitOf cX5_bitOf 2 (some .long), Cond.methodLink RX5 32 yX5_pairsBefore, Cond.instanceMethod yX5_pairsBefore, Cond.selects RX5 yX5_pairsBefore yX5_pairsBefore, Cond.code yX5_pairsBefore cX5_pairsBefore 8 (some .long), Cond.methodLink RX5 74 yX5_firstStirInto, Cond.instanceMethod yX5_firstStirInto, Cond.selects RX5 yX5_firstStirInto yX5_firstStirInto, Cond.code yX5_firstStirInto cX5_firstStirInto 9 (some .int), Cond.fieldLink RX5 78 "LadleKings$Rules" "stirs" "I", Cond.methodLink RX5 81 yX6_placeAfter]
def wsX5_planRaise_r3 : List Cond := [Cond.instanceMethod yX6_placeAfter, Cond.selects RX6 yX6_placeAfter yX6_placeAfter, Cond.code yX6_placeAfter cX6_placeAfter 3 (some .int), Cond.fieldLink RX6 31 "LadleKings$Rules" "after" "[I", Cond.methodLink RX5 85 yX2_holderOf, Cond.instanceMethod yX2_holderOf, Cond.selects RX2 yX2_holderOf yX2_holderOf, Cond.code yX2_holderOf cX2_holderOf 3 (some .int), Cond.methodLink RX5 36 yX5_isGoodNow, Cond.instanceMethod yX5_isGoodNow, Cond.selects RX5 yX5_isGoodNow yX5_isGoodNow, Cond.code yX5_isGoodNow cX5_isGoodNow 2 (some .boolean), Cond.fieldLink RX5 62 "LadleKings$Kitchen" "state" "LLadleKings$State;", Cond.fieldLink RX5 66 "LadleKings$State" "king" "I", Cond.fieldLink RX5 71 "LadleKings$State" "bone" "I", Cond.methodLink RX5 40 yX5_tellRow, Cond.instanceMethod yX5_tellRow, Cond.selects RX5 yX5_tellRow yX5_tellRow, Cond.code yX5_tellRow cX5_tellRow 7 none, Cond.fieldLink RX5 15 "LadleKings$Plans" "row" "[I", Cond.methodLink RX5 88 yX6_hasStir, Cond.instanceMethod yX6_hasStir, Cond.selects RX6 yX6_hasStir yX6_hasStir, Cond.code yX6_hasStir cX6_hasStir 2 (some .boolean)]
def wsX5_planRaise_r4 : List Cond := [Cond.fieldLink RX6 15 "LadleKings$Rules" "stirs" "I"]
def wsX5_planRaise : List Cond := Cond.code yX5_planRaise cX5_planRaise 3 (some .int) :: ((wsX5_planRaise_r1 ++ (wsX5_planRaise_r2 ++ (wsX5_planRaise_r3 ++ wsX5_planRaise_r4))) ++ wsX50 ++ wsX20 ++ wsX60 ++ wsX80)
def wsX6_init : List Cond := Cond.code yX6_init cX6_init 1 none :: ([Cond.methodLink RX6 3 objectInit, Cond.instanceMethod objectInit, Cond.code objectInit ⟨#[0xb1]⟩ 1 none, Cond.fieldLink RX6 9 "LadleKings$Rules" "seats" "I", Cond.fieldLink RX6 15 "LadleKings$Rules" "stirs" "I", Cond.arrayClass .int, Cond.fieldLink RX6 18 "LadleKings$Rules" "need" "[I", Cond.fieldLink RX6 22 "LadleKings$Rules" "kind" "[I", Cond.fieldLink RX6 25 "LadleKings$Rules" "first" "[I", Cond.fieldLink RX6 28 "LadleKings$Rules" "second" "[I", Cond.fieldLink RX6 31 "LadleKings$Rules" "after" "[I"] ++ wsX60)
def wsX6_reset : List Cond := Cond.code yX6_reset cX6_reset 1 none :: ([Cond.fieldLink RX6 9 "LadleKings$Rules" "seats" "I", Cond.fieldLink RX6 15 "LadleKings$Rules" "stirs" "I", Cond.fieldLink RX6 18 "LadleKings$Rules" "need" "[I", Cond.methodLink RX6 34 yJ7_fill_53178, Cond.static yJ7_fill_53178, Cond.initialized RJ7, Cond.code yJ7_fill_53178 cJ7_fill_53178 4 none] ++ wsX60)
def wsX6_copy : List Cond := Cond.code yX6_copy cX6_copy 2 none :: ([Cond.fieldLink RX6 9 "LadleKings$Rules" "seats" "I", Cond.fieldLink RX6 15 "LadleKings$Rules" "stirs" "I", Cond.fieldLink RX6 18 "LadleKings$Rules" "need" "[I", Cond.methodLink RX6 40 arraycopyName, Cond.native arraycopyName, Cond.static arraycopyName, Cond.initialized "java/lang/System", Cond.fieldLink RX6 31 "LadleKings$Rules" "after" "[I"] ++ wsX60)
def wsX6_hasSeat : List Cond := Cond.code yX6_hasSeat cX6_hasSeat 2 (some .boolean) :: ([Cond.fieldLink RX6 9 "LadleKings$Rules" "seats" "I"] ++ wsX60)
def wsX6_addStir : List Cond := Cond.code yX6_addStir cX6_addStir 4 none :: ([Cond.fieldLink RX6 15 "LadleKings$Rules" "stirs" "I", Cond.fieldLink RX6 22 "LadleKings$Rules" "kind" "[I", Cond.fieldLink RX6 25 "LadleKings$Rules" "first" "[I", Cond.fieldLink RX6 28 "LadleKings$Rules" "second" "[I"] ++ wsX60)
def wsX6_swapped : List Cond := Cond.code yX6_swapped cX6_swapped 3 (some .int) :: ([])
def wsX6_lifted : List Cond := Cond.code yX6_lifted cX6_lifted 2 (some .int) :: ([])
def wsX6_workOut : List Cond := Cond.code yX6_workOut cX6_workOut 3 (some .int) :: ([Cond.fieldLink RX6 22 "LadleKings$Rules" "kind" "[I", Cond.fieldLink RX6 25 "LadleKings$Rules" "first" "[I", Cond.fieldLink RX6 9 "LadleKings$Rules" "seats" "I", Cond.fieldLink RX6 28 "LadleKings$Rules" "second" "[I", Cond.methodLink RX6 50 yX6_inRing, Cond.instanceMethod yX6_inRing, Cond.selects RX6 yX6_inRing yX6_inRing, Cond.initialized RX6, Cond.code yX6_inRing cX6_inRing 4 (some .int), Cond.methodLink RX6 54 yX6_swapped, Cond.static yX6_swapped, Cond.code yX6_swapped cX6_swapped 3 (some .int), Cond.methodLink RX6 58 yX6_lifted, Cond.static yX6_lifted, Cond.code yX6_lifted cX6_lifted 2 (some .int)] ++ wsX60)
def wsX6_workOutStirs : List Cond := Cond.code yX6_workOutStirs cX6_workOutStirs 3 none :: ([Cond.fieldLink RX6 15 "LadleKings$Rules" "stirs" "I", Cond.fieldLink RX6 9 "LadleKings$Rules" "seats" "I", Cond.fieldLink RX6 31 "LadleKings$Rules" "after" "[I", Cond.methodLink RX6 46 yX6_workOut, Cond.instanceMethod yX6_workOut, Cond.selects RX6 yX6_workOut yX6_workOut, Cond.initialized RX6, Cond.code yX6_workOut cX6_workOut 3 (some .int), Cond.fieldLink RX6 22 "LadleKings$Rules" "kind" "[I", Cond.fieldLink RX6 25 "LadleKings$Rules" "first" "[I", Cond.fieldLink RX6 28 "LadleKings$Rules" "second" "[I", Cond.methodLink RX6 50 yX6_inRing, Cond.instanceMethod yX6_inRing, Cond.selects RX6 yX6_inRing yX6_inRing, Cond.code yX6_inRing cX6_inRing 4 (some .int), Cond.methodLink RX6 54 yX6_swapped, Cond.static yX6_swapped, Cond.code yX6_swapped cX6_swapped 3 (some .int), Cond.methodLink RX6 58 yX6_lifted, Cond.static yX6_lifted, Cond.code yX6_lifted cX6_lifted 2 (some .int)] ++ wsX60)
def wsX7_init : List Cond := Cond.code yX7_init cX7_init 1 none :: ([Cond.methodLink RX7 3 objectInit, Cond.instanceMethod objectInit, Cond.code objectInit ⟨#[0xb1]⟩ 1 none, Cond.fieldLink RX7 9 "LadleKings$Sheet" "lane" "I", Cond.fieldLink RX7 15 "LadleKings$Sheet" "size" "I", Cond.arrayClass .int, Cond.fieldLink RX7 18 "LadleKings$Sheet" "cells" "[I"] ++ wsX70)
def wsX7_isNothing : List Cond := Cond.code yX7_isNothing cX7_isNothing 1 (some .boolean) :: ([Cond.fieldLink RX7 9 "LadleKings$Sheet" "lane" "I"] ++ wsX70)
def wsX7_renew : List Cond := Cond.code yX7_renew cX7_renew 3 none :: ([Cond.fieldLink RX7 9 "LadleKings$Sheet" "lane" "I", Cond.fieldLink RX7 15 "LadleKings$Sheet" "size" "I", Cond.fieldLink RX7 18 "LadleKings$Sheet" "cells" "[I", Cond.methodLink RX7 22 yJ7_fill_53178, Cond.static yJ7_fill_53178, Cond.initialized RJ7, Cond.code yJ7_fill_53178 cJ7_fill_53178 4 none] ++ wsX70)
def wsX7_faultAt : List Cond := Cond.code yX7_faultAt cX7_faultAt 3 (some .int) :: ([Cond.fieldLink RX7 9 "LadleKings$Sheet" "lane" "I", Cond.fieldLink RX7 15 "LadleKings$Sheet" "size" "I", Cond.methodLink RX7 28 yX7_isNothing, Cond.instanceMethod yX7_isNothing, Cond.selects RX7 yX7_isNothing yX7_isNothing, Cond.initialized RX7, Cond.code yX7_isNothing cX7_isNothing 1 (some .boolean)] ++ wsX70)
def wsX7_put : List Cond := Cond.code yX7_put cX7_put 3 none :: ([Cond.fieldLink RX7 9 "LadleKings$Sheet" "lane" "I", Cond.fieldLink RX7 18 "LadleKings$Sheet" "cells" "[I"] ++ wsX70)
def wsX8_init : List Cond := Cond.code yX8_init cX8_init 1 none :: ([Cond.methodLink RX8 3 objectInit, Cond.instanceMethod objectInit, Cond.code objectInit ⟨#[0xb1]⟩ 1 none, Cond.arrayClass .int, Cond.fieldLink RX8 9 "LadleKings$State" "pieces" "[I", Cond.fieldLink RX8 15 "LadleKings$State" "friends" "[I", Cond.fieldLink RX8 18 "LadleKings$State" "spoons" "[I", Cond.fieldLink RX8 21 "LadleKings$State" "eaten" "[I", Cond.fieldLink RX8 24 "LadleKings$State" "seen" "[I", Cond.fieldLink RX8 27 "LadleKings$State" "seenDays" "I", Cond.fieldLink RX8 31 "LadleKings$State" "bone" "I", Cond.fieldLink RX8 34 "LadleKings$State" "king" "I", Cond.fieldLink RX8 37 "LadleKings$State" "days" "I", Cond.methodLink RX8 40 yJ7_fill_53178, Cond.static yJ7_fill_53178, Cond.initialized RJ7, Cond.code yJ7_fill_53178 cJ7_fill_53178 4 none] ++ wsX80)
def wsX8_reset : List Cond := Cond.code yX8_reset cX8_reset 1 none :: ([Cond.fieldLink RX8 9 "LadleKings$State" "pieces" "[I", Cond.fieldLink RX8 15 "LadleKings$State" "friends" "[I", Cond.fieldLink RX8 18 "LadleKings$State" "spoons" "[I", Cond.fieldLink RX8 21 "LadleKings$State" "eaten" "[I", Cond.fieldLink RX8 27 "LadleKings$State" "seenDays" "I", Cond.fieldLink RX8 31 "LadleKings$State" "bone" "I", Cond.fieldLink RX8 34 "LadleKings$State" "king" "I", Cond.fieldLink RX8 37 "LadleKings$State" "days" "I", Cond.methodLink RX8 40 yJ7_fill_53178, Cond.static yJ7_fill_53178, Cond.initialized RJ7, Cond.code yJ7_fill_53178 cJ7_fill_53178 4 none] ++ wsX80)
def wsX8_copy : List Cond := Cond.code yX8_copy cX8_copy 2 none :: ([Cond.fieldLink RX8 9 "LadleKings$State" "pieces" "[I", Cond.methodLink RX8 46 arraycopyName, Cond.native arraycopyName, Cond.static arraycopyName, Cond.initialized "java/lang/System", Cond.fieldLink RX8 15 "LadleKings$State" "friends" "[I", Cond.fieldLink RX8 18 "LadleKings$State" "spoons" "[I", Cond.fieldLink RX8 21 "LadleKings$State" "eaten" "[I", Cond.fieldLink RX8 24 "LadleKings$State" "seen" "[I", Cond.fieldLink RX8 27 "LadleKings$State" "seenDays" "I", Cond.fieldLink RX8 31 "LadleKings$State" "bone" "I", Cond.fieldLink RX8 34 "LadleKings$State" "king" "I", Cond.fieldLink RX8 37 "LadleKings$State" "days" "I"] ++ wsX80)
def wsX8_setFriend : List Cond := Cond.code yX8_setFriend cX8_setFriend 4 none :: ([Cond.fieldLink RX8 15 "LadleKings$State" "friends" "[I"] ++ wsX80)
def wsX9_init : List Cond := Cond.code yX9_init cX9_init 1 none :: ([Cond.methodLink RX9 3 objectInit, Cond.instanceMethod objectInit, Cond.code objectInit ⟨#[0xb1]⟩ 1 none, Cond.arrayClass .byte, Cond.fieldLink RX9 9 "LadleKings$Tape" "bytes" "[B", Cond.fieldLink RX9 15 "LadleKings$Tape" "length" "I", Cond.fieldLink RX9 19 "LadleKings$Tape" "at" "I", Cond.fieldLink RX9 22 "LadleKings$Tape" "token" "I", Cond.fieldLink RX9 25 "LadleKings$Tape" "start" "I", Cond.fieldLink RX9 28 "LadleKings$Tape" "value" "I"] ++ wsX90)
def wsX9_append : List Cond := Cond.code yX9_append cX9_append 4 (some .boolean) :: ([Cond.fieldLink RX9 15 "LadleKings$Tape" "length" "I", Cond.fieldLink RX9 9 "LadleKings$Tape" "bytes" "[B"] ++ wsX90)
def wsX9_rewind : List Cond := Cond.code yX9_rewind cX9_rewind 1 none :: ([Cond.fieldLink RX9 19 "LadleKings$Tape" "at" "I"] ++ wsX90)
def wsX9_isLetter : List Cond := Cond.code yX9_isLetter cX9_isLetter 1 (some .boolean) :: ([])
def wsX9_readName : List Cond := Cond.code yX9_readName cX9_readName 1 none :: ([Cond.fieldLink RX9 19 "LadleKings$Tape" "at" "I", Cond.fieldLink RX9 15 "LadleKings$Tape" "length" "I", Cond.fieldLink RX9 9 "LadleKings$Tape" "bytes" "[B", Cond.fieldLink RX9 22 "LadleKings$Tape" "token" "I", Cond.methodLink RX9 31 yX9_isLetter, Cond.static yX9_isLetter, Cond.initialized RX9, Cond.code yX9_isLetter cX9_isLetter 1 (some .boolean)] ++ wsX90)
def wsX9_isFigure : List Cond := Cond.code yX9_isFigure cX9_isFigure 1 (some .boolean) :: ([])
def wsX9_readFigures : List Cond := Cond.code yX9_readFigures cX9_readFigures 1 none :: ([Cond.fieldLink RX9 28 "LadleKings$Tape" "value" "I", Cond.fieldLink RX9 19 "LadleKings$Tape" "at" "I", Cond.fieldLink RX9 15 "LadleKings$Tape" "length" "I", Cond.fieldLink RX9 9 "LadleKings$Tape" "bytes" "[B", Cond.fieldLink RX9 25 "LadleKings$Tape" "start" "I", Cond.fieldLink RX9 22 "LadleKings$Tape" "token" "I", Cond.methodLink RX9 38 yX9_isFigure, Cond.static yX9_isFigure, Cond.initialized RX9, Cond.code yX9_isFigure cX9_isFigure 1 (some .boolean)] ++ wsX90)
def wsX9_readToken : List Cond := Cond.code yX9_readToken cX9_readToken 1 none :: ([Cond.fieldLink RX9 19 "LadleKings$Tape" "at" "I", Cond.fieldLink RX9 15 "LadleKings$Tape" "length" "I", Cond.fieldLink RX9 9 "LadleKings$Tape" "bytes" "[B", Cond.fieldLink RX9 25 "LadleKings$Tape" "start" "I", Cond.fieldLink RX9 22 "LadleKings$Tape" "token" "I", Cond.methodLink RX9 31 yX9_isLetter, Cond.static yX9_isLetter, Cond.initialized RX9, Cond.code yX9_isLetter cX9_isLetter 1 (some .boolean), Cond.methodLink RX9 35 yX9_readName, Cond.instanceMethod yX9_readName, Cond.selects RX9 yX9_readName yX9_readName, Cond.code yX9_readName cX9_readName 1 none, Cond.methodLink RX9 38 yX9_isFigure, Cond.static yX9_isFigure, Cond.code yX9_isFigure cX9_isFigure 1 (some .boolean), Cond.methodLink RX9 41 yX9_readFigures, Cond.instanceMethod yX9_readFigures, Cond.selects RX9 yX9_readFigures yX9_readFigures, Cond.code yX9_readFigures cX9_readFigures 1 none, Cond.fieldLink RX9 28 "LadleKings$Tape" "value" "I"] ++ wsX90)
def wsJ0_coder_7d493 : List Cond := Cond.code yJ0_coder_7d493 cJ0_coder_7d493 1 (some .byte) :: ([Cond.fieldLink RJ0 38 "java/lang/String" "COMPACT_STRINGS" "Z", Cond.fieldLink RJ0 15 "java/lang/String" "coder" "B"])
def wsJ0_length_8abf5 : List Cond := Cond.code yJ0_length_8abf5 cJ0_length_8abf5 1 (some .int) :: ([Cond.fieldLink RJ0 9 "java/lang/String" "value" "[B", Cond.methodLink RJ0 335 yJ0_coder_7d493, Cond.instanceMethod yJ0_coder_7d493, Cond.selects RJ0 yJ0_coder_7d493 yJ0_coder_7d493, Cond.initialized RJ0, Cond.code yJ0_coder_7d493 cJ0_coder_7d493 1 (some .byte), Cond.fieldLink RJ0 38 "java/lang/String" "COMPACT_STRINGS" "Z", Cond.fieldLink RJ0 15 "java/lang/String" "coder" "B"])
def wsJ0_isLatin1_aae02 : List Cond := Cond.code yJ0_isLatin1_aae02 cJ0_isLatin1_aae02 1 (some .boolean) :: ([Cond.fieldLink RJ0 38 "java/lang/String" "COMPACT_STRINGS" "Z", Cond.fieldLink RJ0 15 "java/lang/String" "coder" "B"])
def wsJ3_checkIndex_8e157 : List Cond := Cond.code yJ3_checkIndex_8e157 cJ3_checkIndex_8e157 3 (some .int) :: ([])
def wsJ0_checkIndex_df160 : List Cond := Cond.code yJ0_checkIndex_df160 cJ0_checkIndex_df160 2 none :: ([Cond.fieldLink RJ0 1053 "jdk/internal/util/Preconditions" "SIOOBE_FORMATTER" "Ljava/util/function/BiFunction;", Cond.methodLink RJ0 1059 yJ3_checkIndex_8e157, Cond.static yJ3_checkIndex_8e157, Cond.initialized RJ3, Cond.code yJ3_checkIndex_8e157 cJ3_checkIndex_8e157 3 (some .int)])
def wsJ1_charAt_3b067 : List Cond := Cond.code yJ1_charAt_3b067 cJ1_charAt_3b067 2 (some .char) :: ([Cond.methodLink RJ1 9 yJ0_checkIndex_df160, Cond.static yJ0_checkIndex_df160, Cond.initialized RJ0, Cond.code yJ0_checkIndex_df160 cJ0_checkIndex_df160 2 none, Cond.fieldLink RJ0 1053 "jdk/internal/util/Preconditions" "SIOOBE_FORMATTER" "Ljava/util/function/BiFunction;", Cond.methodLink RJ0 1059 yJ3_checkIndex_8e157, Cond.static yJ3_checkIndex_8e157, Cond.initialized RJ3, Cond.code yJ3_checkIndex_8e157 cJ3_checkIndex_8e157 3 (some .int)])
def wsJ2_length_9d52b : List Cond := Cond.code yJ2_length_9d52b cJ2_length_9d52b 1 (some .int) :: ([])
def wsJ2_checkIndex_2214a : List Cond := Cond.code yJ2_checkIndex_2214a cJ2_checkIndex_2214a 2 none :: ([Cond.methodLink RJ2 48 yJ2_length_9d52b, Cond.static yJ2_length_9d52b, Cond.initialized RJ2, Cond.code yJ2_length_9d52b cJ2_length_9d52b 1 (some .int), Cond.methodLink RJ2 414 yJ0_checkIndex_df160, Cond.static yJ0_checkIndex_df160, Cond.initialized RJ0, Cond.code yJ0_checkIndex_df160 cJ0_checkIndex_df160 2 none, Cond.fieldLink RJ0 1053 "jdk/internal/util/Preconditions" "SIOOBE_FORMATTER" "Ljava/util/function/BiFunction;", Cond.methodLink RJ0 1059 yJ3_checkIndex_8e157, Cond.static yJ3_checkIndex_8e157, Cond.initialized RJ3, Cond.code yJ3_checkIndex_8e157 cJ3_checkIndex_8e157 3 (some .int)])
def wsJ2_getChar_3b067 : List Cond := Cond.code yJ2_getChar_3b067 cJ2_getChar_3b067 2 (some .char) :: ([Cond.fieldLink RJ2 44 "java/lang/StringUTF16" "$assertionsDisabled" "Z", Cond.fieldLink RJ2 59 "java/lang/StringUTF16" "HI_BYTE_SHIFT" "I", Cond.fieldLink RJ2 63 "java/lang/StringUTF16" "LO_BYTE_SHIFT" "I", Cond.methodLink RJ2 48 yJ2_length_9d52b, Cond.static yJ2_length_9d52b, Cond.initialized RJ2, Cond.code yJ2_length_9d52b cJ2_length_9d52b 1 (some .int)])
def wsJ2_charAt_3b067 : List Cond := Cond.code yJ2_charAt_3b067 cJ2_charAt_3b067 2 (some .char) :: ([Cond.methodLink RJ2 67 yJ2_checkIndex_2214a, Cond.static yJ2_checkIndex_2214a, Cond.initialized RJ2, Cond.code yJ2_checkIndex_2214a cJ2_checkIndex_2214a 2 none, Cond.methodLink RJ2 48 yJ2_length_9d52b, Cond.static yJ2_length_9d52b, Cond.code yJ2_length_9d52b cJ2_length_9d52b 1 (some .int), Cond.methodLink RJ2 414 yJ0_checkIndex_df160, Cond.static yJ0_checkIndex_df160, Cond.initialized RJ0, Cond.code yJ0_checkIndex_df160 cJ0_checkIndex_df160 2 none, Cond.fieldLink RJ0 1053 "jdk/internal/util/Preconditions" "SIOOBE_FORMATTER" "Ljava/util/function/BiFunction;", Cond.methodLink RJ0 1059 yJ3_checkIndex_8e157, Cond.static yJ3_checkIndex_8e157, Cond.initialized RJ3, Cond.code yJ3_checkIndex_8e157 cJ3_checkIndex_8e157 3 (some .int), Cond.methodLink RJ2 71 yJ2_getChar_3b067, Cond.static yJ2_getChar_3b067, Cond.code yJ2_getChar_3b067 cJ2_getChar_3b067 2 (some .char), Cond.fieldLink RJ2 44 "java/lang/StringUTF16" "$assertionsDisabled" "Z", Cond.fieldLink RJ2 59 "java/lang/StringUTF16" "HI_BYTE_SHIFT" "I", Cond.fieldLink RJ2 63 "java/lang/StringUTF16" "LO_BYTE_SHIFT" "I"])
def wsJ0_charAt_5068e_r1 : List Cond := [Cond.fieldLink RJ0 9 "java/lang/String" "value" "[B", Cond.methodLink RJ0 492 yJ0_isLatin1_aae02, Cond.instanceMethod yJ0_isLatin1_aae02, Cond.selects RJ0 yJ0_isLatin1_aae02 yJ0_isLatin1_aae02, Cond.initialized RJ0, Cond.code yJ0_isLatin1_aae02 cJ0_isLatin1_aae02 1 (some .boolean), Cond.fieldLink RJ0 38 "java/lang/String" "COMPACT_STRINGS" "Z", Cond.fieldLink RJ0 15 "java/lang/String" "coder" "B", Cond.methodLink RJ0 495 yJ1_charAt_3b067, Cond.static yJ1_charAt_3b067, Cond.initialized RJ1, Cond.code yJ1_charAt_3b067 cJ1_charAt_3b067 2 (some .char), Cond.methodLink RJ1 9 yJ0_checkIndex_df160, Cond.static yJ0_checkIndex_df160, Cond.code yJ0_checkIndex_df160 cJ0_checkIndex_df160 2 none, Cond.fieldLink RJ0 1053 "jdk/internal/util/Preconditions" "SIOOBE_FORMATTER" "Ljava/util/function/BiFunction;", Cond.methodLink RJ0 1059 yJ3_checkIndex_8e157, Cond.static yJ3_checkIndex_8e157, Cond.initialized RJ3, Cond.code yJ3_checkIndex_8e157 cJ3_checkIndex_8e157 3 (some .int), Cond.methodLink RJ0 498 yJ2_charAt_3b067, Cond.static yJ2_charAt_3b067, Cond.initialized RJ2, Cond.code yJ2_charAt_3b067 cJ2_charAt_3b067 2 (some .char)]
def wsJ0_charAt_5068e_r2 : List Cond := [Cond.methodLink RJ2 67 yJ2_checkIndex_2214a, Cond.static yJ2_checkIndex_2214a, Cond.code yJ2_checkIndex_2214a cJ2_checkIndex_2214a 2 none, Cond.methodLink RJ2 48 yJ2_length_9d52b, Cond.static yJ2_length_9d52b, Cond.code yJ2_length_9d52b cJ2_length_9d52b 1 (some .int), Cond.methodLink RJ2 414 yJ0_checkIndex_df160, Cond.methodLink RJ2 71 yJ2_getChar_3b067, Cond.static yJ2_getChar_3b067, Cond.code yJ2_getChar_3b067 cJ2_getChar_3b067 2 (some .char), Cond.fieldLink RJ2 44 "java/lang/StringUTF16" "$assertionsDisabled" "Z", Cond.fieldLink RJ2 59 "java/lang/StringUTF16" "HI_BYTE_SHIFT" "I", Cond.fieldLink RJ2 63 "java/lang/StringUTF16" "LO_BYTE_SHIFT" "I"]
def wsJ0_charAt_5068e : List Cond := Cond.code yJ0_charAt_5068e cJ0_charAt_5068e 2 (some .char) :: ((wsJ0_charAt_5068e_r1 ++ wsJ0_charAt_5068e_r2))
def wsX9_isNamed_r1 : List Cond := [Cond.fieldLink RX9 19 "LadleKings$Tape" "at" "I", Cond.fieldLink RX9 25 "LadleKings$Tape" "start" "I", Cond.fieldLink RX9 9 "LadleKings$Tape" "bytes" "[B", Cond.methodLink RX9 44 yJ0_length_8abf5, Cond.instanceMethod yJ0_length_8abf5, Cond.selects RJ0 yJ0_length_8abf5 yJ0_length_8abf5, Cond.initialized RJ0, Cond.code yJ0_length_8abf5 cJ0_length_8abf5 1 (some .int), Cond.fieldLink RJ0 9 "java/lang/String" "value" "[B", Cond.methodLink RJ0 335 yJ0_coder_7d493, Cond.instanceMethod yJ0_coder_7d493, Cond.selects RJ0 yJ0_coder_7d493 yJ0_coder_7d493, Cond.code yJ0_coder_7d493 cJ0_coder_7d493 1 (some .byte), Cond.fieldLink RJ0 38 "java/lang/String" "COMPACT_STRINGS" "Z", Cond.fieldLink RJ0 15 "java/lang/String" "coder" "B", Cond.methodLink RX9 49 yJ0_charAt_5068e, Cond.instanceMethod yJ0_charAt_5068e, Cond.selects RJ0 yJ0_charAt_5068e yJ0_charAt_5068e, Cond.code yJ0_charAt_5068e cJ0_charAt_5068e 2 (some .char), Cond.methodLink RJ0 492 yJ0_isLatin1_aae02, Cond.instanceMethod yJ0_isLatin1_aae02, Cond.selects RJ0 yJ0_isLatin1_aae02 yJ0_isLatin1_aae02, Cond.code yJ0_isLatin1_aae02 cJ0_isLatin1_aae02 1 (some .boolean), Cond.methodLink RJ0 495 yJ1_charAt_3b067]
def wsX9_isNamed_r2 : List Cond := [Cond.static yJ1_charAt_3b067, Cond.initialized RJ1, Cond.code yJ1_charAt_3b067 cJ1_charAt_3b067 2 (some .char), Cond.methodLink RJ1 9 yJ0_checkIndex_df160, Cond.static yJ0_checkIndex_df160, Cond.code yJ0_checkIndex_df160 cJ0_checkIndex_df160 2 none, Cond.fieldLink RJ0 1053 "jdk/internal/util/Preconditions" "SIOOBE_FORMATTER" "Ljava/util/function/BiFunction;", Cond.methodLink RJ0 1059 yJ3_checkIndex_8e157, Cond.static yJ3_checkIndex_8e157, Cond.initialized RJ3, Cond.code yJ3_checkIndex_8e157 cJ3_checkIndex_8e157 3 (some .int), Cond.methodLink RJ0 498 yJ2_charAt_3b067, Cond.static yJ2_charAt_3b067, Cond.initialized RJ2, Cond.code yJ2_charAt_3b067 cJ2_charAt_3b067 2 (some .char), Cond.methodLink RJ2 67 yJ2_checkIndex_2214a, Cond.static yJ2_checkIndex_2214a, Cond.code yJ2_checkIndex_2214a cJ2_checkIndex_2214a 2 none, Cond.methodLink RJ2 48 yJ2_length_9d52b, Cond.static yJ2_length_9d52b, Cond.code yJ2_length_9d52b cJ2_length_9d52b 1 (some .int), Cond.methodLink RJ2 414 yJ0_checkIndex_df160, Cond.methodLink RJ2 71 yJ2_getChar_3b067, Cond.static yJ2_getChar_3b067]
def wsX9_isNamed_r3 : List Cond := [Cond.code yJ2_getChar_3b067 cJ2_getChar_3b067 2 (some .char), Cond.fieldLink RJ2 44 "java/lang/StringUTF16" "$assertionsDisabled" "Z", Cond.fieldLink RJ2 59 "java/lang/StringUTF16" "HI_BYTE_SHIFT" "I", Cond.fieldLink RJ2 63 "java/lang/StringUTF16" "LO_BYTE_SHIFT" "I"]
def wsX9_isNamed : List Cond := Cond.code yX9_isNamed cX9_isNamed 3 (some .boolean) :: ((wsX9_isNamed_r1 ++ (wsX9_isNamed_r2 ++ wsX9_isNamed_r3)) ++ wsX90)
def wsX10_init_r1 : List Cond := [Cond.methodLink RX10 3 objectInit, Cond.instanceMethod objectInit, Cond.code objectInit ⟨#[0xb1]⟩ 1 none, Cond.classLink RX10 9 RX6, Cond.instantiable RX6 7, Cond.initialized RX6, Cond.fieldLink RX10 12 "LadleKings$TextReader" "rules" "LLadleKings$Rules;", Cond.classLink RX10 18 RX8, Cond.instantiable RX8 9, Cond.initialized RX8, Cond.fieldLink RX10 21 "LadleKings$TextReader" "state" "LLadleKings$State;", Cond.fieldLink RX10 25 "LadleKings$TextReader" "faultFound" "I", Cond.fieldLink RX10 29 "LadleKings$TextReader" "faultPlace" "I", Cond.fieldLink RX10 32 "LadleKings$TextReader" "lines" "I", Cond.fieldLink RX10 35 "LadleKings$TextReader" "met" "I", Cond.fieldLink RX10 38 "LadleKings$TextReader" "greatest" "I", Cond.arrayClass .int, Cond.fieldLink RX10 41 "LadleKings$TextReader" "numbers" "[I", Cond.fieldLink RX10 45 "LadleKings$TextReader" "tape" "LLadleKings$Tape;", Cond.instanceMethod yX6_init, Cond.code yX6_init cX6_init 1 none, Cond.methodLink RX6 3 objectInit, Cond.fieldLink RX6 9 "LadleKings$Rules" "seats" "I", Cond.fieldLink RX6 15 "LadleKings$Rules" "stirs" "I"]
def wsX10_init_r2 : List Cond := [Cond.fieldLink RX6 18 "LadleKings$Rules" "need" "[I", Cond.fieldLink RX6 22 "LadleKings$Rules" "kind" "[I", Cond.fieldLink RX6 25 "LadleKings$Rules" "first" "[I", Cond.fieldLink RX6 28 "LadleKings$Rules" "second" "[I", Cond.fieldLink RX6 31 "LadleKings$Rules" "after" "[I", Cond.methodLink RX10 20 yX8_init, Cond.instanceMethod yX8_init, Cond.code yX8_init cX8_init 1 none, Cond.methodLink RX8 3 objectInit, Cond.fieldLink RX8 9 "LadleKings$State" "pieces" "[I", Cond.fieldLink RX8 15 "LadleKings$State" "friends" "[I", Cond.fieldLink RX8 18 "LadleKings$State" "spoons" "[I", Cond.fieldLink RX8 21 "LadleKings$State" "eaten" "[I", Cond.fieldLink RX8 24 "LadleKings$State" "seen" "[I", Cond.fieldLink RX8 27 "LadleKings$State" "seenDays" "I", Cond.fieldLink RX8 31 "LadleKings$State" "bone" "I", Cond.fieldLink RX8 34 "LadleKings$State" "king" "I", Cond.fieldLink RX8 37 "LadleKings$State" "days" "I", Cond.methodLink RX8 40 yJ7_fill_53178, Cond.static yJ7_fill_53178, Cond.initialized RJ7, Cond.code yJ7_fill_53178 cJ7_fill_53178 4 none]
def wsX10_init : List Cond := Cond.code yX10_init cX10_init 2 none :: ((wsX10_init_r1 ++ wsX10_init_r2) ++ wsX60 ++ wsX100 ++ wsX80)
def wsX10_begin_r1 : List Cond := [Cond.fieldLink RX10 12 "LadleKings$TextReader" "rules" "LLadleKings$Rules;", Cond.fieldLink RX10 21 "LadleKings$TextReader" "state" "LLadleKings$State;", Cond.fieldLink RX10 45 "LadleKings$TextReader" "tape" "LLadleKings$Tape;", Cond.fieldLink RX10 25 "LadleKings$TextReader" "faultFound" "I", Cond.fieldLink RX10 32 "LadleKings$TextReader" "lines" "I", Cond.fieldLink RX10 35 "LadleKings$TextReader" "met" "I", Cond.fieldLink RX10 38 "LadleKings$TextReader" "greatest" "I", Cond.methodLink RX10 71 yX6_reset, Cond.instanceMethod yX6_reset, Cond.selects RX6 yX6_reset yX6_reset, Cond.initialized RX6, Cond.code yX6_reset cX6_reset 1 none, Cond.fieldLink RX6 9 "LadleKings$Rules" "seats" "I", Cond.fieldLink RX6 15 "LadleKings$Rules" "stirs" "I", Cond.fieldLink RX6 18 "LadleKings$Rules" "need" "[I", Cond.methodLink RX6 34 yJ7_fill_53178, Cond.static yJ7_fill_53178, Cond.initialized RJ7, Cond.code yJ7_fill_53178 cJ7_fill_53178 4 none, Cond.methodLink RX10 74 yX8_reset, Cond.instanceMethod yX8_reset, Cond.selects RX8 yX8_reset yX8_reset, Cond.initialized RX8, Cond.code yX8_reset cX8_reset 1 none]
def wsX10_begin_r2 : List Cond := [Cond.fieldLink RX8 9 "LadleKings$State" "pieces" "[I", Cond.fieldLink RX8 15 "LadleKings$State" "friends" "[I", Cond.fieldLink RX8 18 "LadleKings$State" "spoons" "[I", Cond.fieldLink RX8 21 "LadleKings$State" "eaten" "[I", Cond.fieldLink RX8 27 "LadleKings$State" "seenDays" "I", Cond.fieldLink RX8 31 "LadleKings$State" "bone" "I", Cond.fieldLink RX8 34 "LadleKings$State" "king" "I", Cond.fieldLink RX8 37 "LadleKings$State" "days" "I", Cond.methodLink RX8 40 yJ7_fill_53178, Cond.methodLink RX10 75 yX9_rewind, Cond.instanceMethod yX9_rewind, Cond.selects RX9 yX9_rewind yX9_rewind, Cond.initialized RX9, Cond.code yX9_rewind cX9_rewind 1 none, Cond.fieldLink RX9 19 "LadleKings$Tape" "at" "I"]
def wsX10_begin : List Cond := Cond.code yX10_begin cX10_begin 1 none :: ((wsX10_begin_r1 ++ wsX10_begin_r2) ++ wsX100 ++ wsX60 ++ wsX80 ++ wsX90)
def wsX10_nameOf : List Cond := Cond.code yX10_nameOf cX10_nameOf 1 (some (.object "java/lang/String")) :: ([])
def wsX10_nameRead_r1 : List Cond := [Cond.fieldLink RX10 45 "LadleKings$TextReader" "tape" "LLadleKings$Tape;", Cond.fieldLink RX10 81 "LadleKings$Tape" "token" "I", Cond.methodLink RX10 112 yX10_nameOf, Cond.static yX10_nameOf, Cond.initialized RX10, Cond.code yX10_nameOf cX10_nameOf 1 (some (.object "java/lang/String")), Cond.methodLink RX10 116 yX9_isNamed, Cond.instanceMethod yX9_isNamed, Cond.selects RX9 yX9_isNamed yX9_isNamed, Cond.initialized RX9, Cond.code yX9_isNamed cX9_isNamed 3 (some .boolean), Cond.fieldLink RX9 19 "LadleKings$Tape" "at" "I", Cond.fieldLink RX9 25 "LadleKings$Tape" "start" "I", Cond.fieldLink RX9 9 "LadleKings$Tape" "bytes" "[B", Cond.methodLink RX9 44 yJ0_length_8abf5, Cond.instanceMethod yJ0_length_8abf5, Cond.selects RJ0 yJ0_length_8abf5 yJ0_length_8abf5, Cond.initialized RJ0, Cond.code yJ0_length_8abf5 cJ0_length_8abf5 1 (some .int), Cond.fieldLink RJ0 9 "java/lang/String" "value" "[B", Cond.methodLink RJ0 335 yJ0_coder_7d493, Cond.instanceMethod yJ0_coder_7d493, Cond.selects RJ0 yJ0_coder_7d493 yJ0_coder_7d493, Cond.code yJ0_coder_7d493 cJ0_coder_7d493 1 (some .byte)]
def wsX10_nameRead_r2 : List Cond := [Cond.fieldLink RJ0 38 "java/lang/String" "COMPACT_STRINGS" "Z", Cond.fieldLink RJ0 15 "java/lang/String" "coder" "B", Cond.methodLink RX9 49 yJ0_charAt_5068e, Cond.instanceMethod yJ0_charAt_5068e, Cond.selects RJ0 yJ0_charAt_5068e yJ0_charAt_5068e, Cond.code yJ0_charAt_5068e cJ0_charAt_5068e 2 (some .char), Cond.methodLink RJ0 492 yJ0_isLatin1_aae02, Cond.instanceMethod yJ0_isLatin1_aae02, Cond.selects RJ0 yJ0_isLatin1_aae02 yJ0_isLatin1_aae02, Cond.code yJ0_isLatin1_aae02 cJ0_isLatin1_aae02 1 (some .boolean), Cond.methodLink RJ0 495 yJ1_charAt_3b067, Cond.static yJ1_charAt_3b067, Cond.initialized RJ1, Cond.code yJ1_charAt_3b067 cJ1_charAt_3b067 2 (some .char), Cond.methodLink RJ1 9 yJ0_checkIndex_df160, Cond.static yJ0_checkIndex_df160, Cond.code yJ0_checkIndex_df160 cJ0_checkIndex_df160 2 none, Cond.fieldLink RJ0 1053 "jdk/internal/util/Preconditions" "SIOOBE_FORMATTER" "Ljava/util/function/BiFunction;", Cond.methodLink RJ0 1059 yJ3_checkIndex_8e157, Cond.static yJ3_checkIndex_8e157, Cond.initialized RJ3, Cond.code yJ3_checkIndex_8e157 cJ3_checkIndex_8e157 3 (some .int), Cond.methodLink RJ0 498 yJ2_charAt_3b067, Cond.static yJ2_charAt_3b067]
def wsX10_nameRead_r3 : List Cond := [Cond.initialized RJ2, Cond.code yJ2_charAt_3b067 cJ2_charAt_3b067 2 (some .char), Cond.methodLink RJ2 67 yJ2_checkIndex_2214a, Cond.static yJ2_checkIndex_2214a, Cond.code yJ2_checkIndex_2214a cJ2_checkIndex_2214a 2 none, Cond.methodLink RJ2 48 yJ2_length_9d52b, Cond.static yJ2_length_9d52b, Cond.code yJ2_length_9d52b cJ2_length_9d52b 1 (some .int), Cond.methodLink RJ2 414 yJ0_checkIndex_df160, Cond.methodLink RJ2 71 yJ2_getChar_3b067, Cond.static yJ2_getChar_3b067, Cond.code yJ2_getChar_3b067 cJ2_getChar_3b067 2 (some .char), Cond.fieldLink RJ2 44 "java/lang/StringUTF16" "$assertionsDisabled" "Z", Cond.fieldLink RJ2 59 "java/lang/StringUTF16" "HI_BYTE_SHIFT" "I", Cond.fieldLink RJ2 63 "java/lang/StringUTF16" "LO_BYTE_SHIFT" "I"]
def wsX10_nameRead : List Cond := Cond.code yX10_nameRead cX10_nameRead 2 (some .int) :: ((wsX10_nameRead_r1 ++ (wsX10_nameRead_r2 ++ wsX10_nameRead_r3)) ++ wsX100 ++ wsX90)
def wsX10_faultOfName : List Cond := Cond.code yX10_faultOfName cX10_faultOfName 2 (some .int) :: ([Cond.fieldLink RX10 45 "LadleKings$TextReader" "tape" "LLadleKings$Tape;", Cond.fieldLink RX10 81 "LadleKings$Tape" "token" "I", Cond.fieldLink RX10 35 "LadleKings$TextReader" "met" "I", Cond.fieldLink RX10 12 "LadleKings$TextReader" "rules" "LLadleKings$Rules;", Cond.fieldLink RX10 141 "LadleKings$Rules" "stirs" "I"] ++ wsX100 ++ wsX90 ++ wsX60)
def wsX10_refuse : List Cond := Cond.code yX10_refuse cX10_refuse 3 (some .boolean) :: ([Cond.fieldLink RX10 25 "LadleKings$TextReader" "faultFound" "I", Cond.fieldLink RX10 29 "LadleKings$TextReader" "faultPlace" "I"] ++ wsX100)
def wsX10_heed : List Cond := Cond.code yX10_heed cX10_heed 2 none :: ([Cond.fieldLink RX10 38 "LadleKings$TextReader" "greatest" "I", Cond.methodLink RX10 184 Lib.Math.max.name, Cond.static Lib.Math.max.name, Cond.initialized "java/lang/Math", Cond.code Lib.Math.max.name Lib.Math.max.code 2 (some .int)] ++ wsX100)
def wsX10_takeStir : List Cond := Cond.code yX10_takeStir cX10_takeStir 4 none :: ([Cond.fieldLink RX10 12 "LadleKings$TextReader" "rules" "LLadleKings$Rules;", Cond.methodLink RX10 184 Lib.Math.max.name, Cond.static Lib.Math.max.name, Cond.initialized "java/lang/Math", Cond.code Lib.Math.max.name Lib.Math.max.code 2 (some .int), Cond.methodLink RX10 197 yX6_addStir, Cond.instanceMethod yX6_addStir, Cond.selects RX6 yX6_addStir yX6_addStir, Cond.initialized RX6, Cond.code yX6_addStir cX6_addStir 4 none, Cond.fieldLink RX6 15 "LadleKings$Rules" "stirs" "I", Cond.fieldLink RX6 22 "LadleKings$Rules" "kind" "[I", Cond.fieldLink RX6 25 "LadleKings$Rules" "first" "[I", Cond.fieldLink RX6 28 "LadleKings$Rules" "second" "[I", Cond.methodLink RX10 172 yX10_heed, Cond.instanceMethod yX10_heed, Cond.selects RX10 yX10_heed yX10_heed, Cond.initialized RX10, Cond.code yX10_heed cX10_heed 2 none, Cond.fieldLink RX10 38 "LadleKings$TextReader" "greatest" "I"] ++ wsX100 ++ wsX60)
def wsX10_takeLine_r1 : List Cond := [Cond.fieldLink RX10 32 "LadleKings$TextReader" "lines" "I", Cond.fieldLink RX10 41 "LadleKings$TextReader" "numbers" "[I", Cond.fieldLink RX10 12 "LadleKings$TextReader" "rules" "LLadleKings$Rules;", Cond.fieldLink RX10 56 "LadleKings$Rules" "seats" "I", Cond.fieldLink RX10 21 "LadleKings$TextReader" "state" "LLadleKings$State;", Cond.fieldLink RX10 163 "LadleKings$State" "pieces" "[I", Cond.methodLink RX10 166 arraycopyName, Cond.native arraycopyName, Cond.static arraycopyName, Cond.initialized "java/lang/System", Cond.fieldLink RX10 176 "LadleKings$State" "bone" "I", Cond.fieldLink RX10 178 "LadleKings$State" "king" "I", Cond.methodLink RX10 184 Lib.Math.max.name, Cond.static Lib.Math.max.name, Cond.initialized "java/lang/Math", Cond.code Lib.Math.max.name Lib.Math.max.code 2 (some .int), Cond.fieldLink RX10 189 "LadleKings$State" "spoons" "[I", Cond.fieldLink RX10 191 "LadleKings$Rules" "need" "[I", Cond.methodLink RX10 172 yX10_heed, Cond.instanceMethod yX10_heed, Cond.selects RX10 yX10_heed yX10_heed, Cond.initialized RX10, Cond.code yX10_heed cX10_heed 2 none, Cond.fieldLink RX10 38 "LadleKings$TextReader" "greatest" "I"]
def wsX10_takeLine_r2 : List Cond := [Cond.methodLink RX10 180 yX8_setFriend, Cond.instanceMethod yX8_setFriend, Cond.selects RX8 yX8_setFriend yX8_setFriend, Cond.initialized RX8, Cond.code yX8_setFriend cX8_setFriend 4 none, Cond.fieldLink RX8 15 "LadleKings$State" "friends" "[I", Cond.methodLink RX10 193 yX10_takeStir, Cond.instanceMethod yX10_takeStir, Cond.selects RX10 yX10_takeStir yX10_takeStir, Cond.code yX10_takeStir cX10_takeStir 4 none, Cond.methodLink RX10 197 yX6_addStir, Cond.instanceMethod yX6_addStir, Cond.selects RX6 yX6_addStir yX6_addStir, Cond.initialized RX6, Cond.code yX6_addStir cX6_addStir 4 none, Cond.fieldLink RX6 15 "LadleKings$Rules" "stirs" "I", Cond.fieldLink RX6 22 "LadleKings$Rules" "kind" "[I", Cond.fieldLink RX6 25 "LadleKings$Rules" "first" "[I", Cond.fieldLink RX6 28 "LadleKings$Rules" "second" "[I"]
def wsX10_takeLine : List Cond := Cond.code yX10_takeLine cX10_takeLine 5 none :: ((wsX10_takeLine_r1 ++ wsX10_takeLine_r2) ++ wsX100 ++ wsX60 ++ wsX80)
def wsX10_isAgain : List Cond := Cond.code yX10_isAgain cX10_isAgain 3 (some .boolean) :: ([Cond.fieldLink RX10 45 "LadleKings$TextReader" "tape" "LLadleKings$Tape;", Cond.fieldLink RX10 109 "LadleKings$Tape" "value" "I", Cond.fieldLink RX10 41 "LadleKings$TextReader" "numbers" "[I", Cond.fieldLink RX10 21 "LadleKings$TextReader" "state" "LLadleKings$State;", Cond.methodLink RX10 160 yX8_isFriend, Cond.instanceMethod yX8_isFriend, Cond.selects RX8 yX8_isFriend yX8_isFriend, Cond.initialized RX8, Cond.code yX8_isFriend cX8_isFriend 3 (some .boolean), Cond.fieldLink RX8 15 "LadleKings$State" "friends" "[I"] ++ wsX100 ++ wsX90 ++ wsX80)
def wsX10_faultOfNumber : List Cond := Cond.code yX10_faultOfNumber cX10_faultOfNumber 6 (some .int) :: ([Cond.fieldLink RX10 45 "LadleKings$TextReader" "tape" "LLadleKings$Tape;", Cond.fieldLink RX10 81 "LadleKings$Tape" "token" "I", Cond.fieldLink RX10 95 "LadleKings$TextReader" "MOST" "[I", Cond.fieldLink RX10 144 "LadleKings$TextReader" "FIRST_LOW" "[I", Cond.fieldLink RX10 147 "LadleKings$TextReader" "LATER_LOW" "[I", Cond.fieldLink RX10 150 "LadleKings$TextReader" "FIRST_HIGH" "[I", Cond.fieldLink RX10 153 "LadleKings$TextReader" "LATER_HIGH" "[I", Cond.fieldLink RX10 109 "LadleKings$Tape" "value" "I", Cond.methodLink RX10 156 yX10_isAgain, Cond.instanceMethod yX10_isAgain, Cond.selects RX10 yX10_isAgain yX10_isAgain, Cond.initialized RX10, Cond.code yX10_isAgain cX10_isAgain 3 (some .boolean), Cond.fieldLink RX10 41 "LadleKings$TextReader" "numbers" "[I", Cond.fieldLink RX10 21 "LadleKings$TextReader" "state" "LLadleKings$State;", Cond.methodLink RX10 160 yX8_isFriend, Cond.instanceMethod yX8_isFriend, Cond.selects RX8 yX8_isFriend yX8_isFriend, Cond.initialized RX8, Cond.code yX8_isFriend cX8_isFriend 3 (some .boolean), Cond.fieldLink RX8 15 "LadleKings$State" "friends" "[I"] ++ wsX100 ++ wsX90 ++ wsX80)
def wsX10_readLine_r1 : List Cond := [Cond.fieldLink RX10 45 "LadleKings$TextReader" "tape" "LLadleKings$Tape;", Cond.fieldLink RX10 81 "LadleKings$Tape" "token" "I", Cond.fieldLink RX10 92 "LadleKings$Tape" "start" "I", Cond.fieldLink RX10 35 "LadleKings$TextReader" "met" "I", Cond.fieldLink RX10 95 "LadleKings$TextReader" "MOST" "[I", Cond.fieldLink RX10 98 "LadleKings$TextReader" "FEWEST" "[I", Cond.fieldLink RX10 41 "LadleKings$TextReader" "numbers" "[I", Cond.fieldLink RX10 109 "LadleKings$Tape" "value" "I", Cond.methodLink RX10 78 yX9_readToken, Cond.instanceMethod yX9_readToken, Cond.selects RX9 yX9_readToken yX9_readToken, Cond.initialized RX9, Cond.code yX9_readToken cX9_readToken 1 none, Cond.fieldLink RX9 19 "LadleKings$Tape" "at" "I", Cond.fieldLink RX9 15 "LadleKings$Tape" "length" "I", Cond.fieldLink RX9 9 "LadleKings$Tape" "bytes" "[B", Cond.fieldLink RX9 25 "LadleKings$Tape" "start" "I", Cond.fieldLink RX9 22 "LadleKings$Tape" "token" "I", Cond.methodLink RX9 31 yX9_isLetter, Cond.static yX9_isLetter, Cond.code yX9_isLetter cX9_isLetter 1 (some .boolean), Cond.methodLink RX9 35 yX9_readName, Cond.instanceMethod yX9_readName, Cond.selects RX9 yX9_readName yX9_readName]
def wsX10_readLine_r2 : List Cond := [Cond.code yX9_readName cX9_readName 1 none, Cond.methodLink RX9 38 yX9_isFigure, Cond.static yX9_isFigure, Cond.code yX9_isFigure cX9_isFigure 1 (some .boolean), Cond.methodLink RX9 41 yX9_readFigures, Cond.instanceMethod yX9_readFigures, Cond.selects RX9 yX9_readFigures yX9_readFigures, Cond.code yX9_readFigures cX9_readFigures 1 none, Cond.fieldLink RX9 28 "LadleKings$Tape" "value" "I", Cond.methodLink RX10 84 yX10_nameRead, Cond.instanceMethod yX10_nameRead, Cond.selects RX10 yX10_nameRead yX10_nameRead, Cond.initialized RX10, Cond.code yX10_nameRead cX10_nameRead 2 (some .int), Cond.methodLink RX10 112 yX10_nameOf, Cond.static yX10_nameOf, Cond.code yX10_nameOf cX10_nameOf 1 (some (.object "java/lang/String")), Cond.methodLink RX10 116 yX9_isNamed, Cond.instanceMethod yX9_isNamed, Cond.selects RX9 yX9_isNamed yX9_isNamed, Cond.code yX9_isNamed cX9_isNamed 3 (some .boolean), Cond.methodLink RX9 44 yJ0_length_8abf5, Cond.instanceMethod yJ0_length_8abf5, Cond.selects RJ0 yJ0_length_8abf5 yJ0_length_8abf5]
def wsX10_readLine_r3 : List Cond := [Cond.initialized RJ0, Cond.code yJ0_length_8abf5 cJ0_length_8abf5 1 (some .int), Cond.fieldLink RJ0 9 "java/lang/String" "value" "[B", Cond.methodLink RJ0 335 yJ0_coder_7d493, Cond.instanceMethod yJ0_coder_7d493, Cond.selects RJ0 yJ0_coder_7d493 yJ0_coder_7d493, Cond.code yJ0_coder_7d493 cJ0_coder_7d493 1 (some .byte), Cond.fieldLink RJ0 38 "java/lang/String" "COMPACT_STRINGS" "Z", Cond.fieldLink RJ0 15 "java/lang/String" "coder" "B", Cond.methodLink RX9 49 yJ0_charAt_5068e, Cond.instanceMethod yJ0_charAt_5068e, Cond.selects RJ0 yJ0_charAt_5068e yJ0_charAt_5068e, Cond.code yJ0_charAt_5068e cJ0_charAt_5068e 2 (some .char), Cond.methodLink RJ0 492 yJ0_isLatin1_aae02, Cond.instanceMethod yJ0_isLatin1_aae02, Cond.selects RJ0 yJ0_isLatin1_aae02 yJ0_isLatin1_aae02, Cond.code yJ0_isLatin1_aae02 cJ0_isLatin1_aae02 1 (some .boolean), Cond.methodLink RJ0 495 yJ1_charAt_3b067, Cond.static yJ1_charAt_3b067, Cond.initialized RJ1, Cond.code yJ1_charAt_3b067 cJ1_charAt_3b067 2 (some .char), Cond.methodLink RJ1 9 yJ0_checkIndex_df160, Cond.static yJ0_checkIndex_df160, Cond.code yJ0_checkIndex_df160 cJ0_checkIndex_df160 2 none]
def wsX10_readLine_r4 : List Cond := [Cond.fieldLink RJ0 1053 "jdk/internal/util/Preconditions" "SIOOBE_FORMATTER" "Ljava/util/function/BiFunction;", Cond.methodLink RJ0 1059 yJ3_checkIndex_8e157, Cond.static yJ3_checkIndex_8e157, Cond.initialized RJ3, Cond.code yJ3_checkIndex_8e157 cJ3_checkIndex_8e157 3 (some .int), Cond.methodLink RJ0 498 yJ2_charAt_3b067, Cond.static yJ2_charAt_3b067, Cond.initialized RJ2, Cond.code yJ2_charAt_3b067 cJ2_charAt_3b067 2 (some .char), Cond.methodLink RJ2 67 yJ2_checkIndex_2214a, Cond.static yJ2_checkIndex_2214a, Cond.code yJ2_checkIndex_2214a cJ2_checkIndex_2214a 2 none, Cond.methodLink RJ2 48 yJ2_length_9d52b, Cond.static yJ2_length_9d52b, Cond.code yJ2_length_9d52b cJ2_length_9d52b 1 (some .int), Cond.methodLink RJ2 414 yJ0_checkIndex_df160, Cond.methodLink RJ2 71 yJ2_getChar_3b067, Cond.static yJ2_getChar_3b067, Cond.code yJ2_getChar_3b067 cJ2_getChar_3b067 2 (some .char), Cond.fieldLink RJ2 44 "java/lang/StringUTF16" "$assertionsDisabled" "Z", Cond.fieldLink RJ2 59 "java/lang/StringUTF16" "HI_BYTE_SHIFT" "I", Cond.fieldLink RJ2 63 "java/lang/StringUTF16" "LO_BYTE_SHIFT" "I", Cond.methodLink RX10 88 yX10_faultOfName, Cond.instanceMethod yX10_faultOfName]
def wsX10_readLine_r5 : List Cond := [Cond.selects RX10 yX10_faultOfName yX10_faultOfName, Cond.code yX10_faultOfName cX10_faultOfName 2 (some .int), Cond.fieldLink RX10 12 "LadleKings$TextReader" "rules" "LLadleKings$Rules;", Cond.fieldLink RX10 141 "LadleKings$Rules" "stirs" "I", Cond.methodLink RX10 64 yX10_refuse, Cond.instanceMethod yX10_refuse, Cond.selects RX10 yX10_refuse yX10_refuse, Cond.code yX10_refuse cX10_refuse 3 (some .boolean), Cond.fieldLink RX10 25 "LadleKings$TextReader" "faultFound" "I", Cond.fieldLink RX10 29 "LadleKings$TextReader" "faultPlace" "I", Cond.methodLink RX10 101 yX10_takeLine, Cond.instanceMethod yX10_takeLine, Cond.selects RX10 yX10_takeLine yX10_takeLine, Cond.code yX10_takeLine cX10_takeLine 5 none, Cond.fieldLink RX10 32 "LadleKings$TextReader" "lines" "I", Cond.fieldLink RX10 56 "LadleKings$Rules" "seats" "I", Cond.fieldLink RX10 21 "LadleKings$TextReader" "state" "LLadleKings$State;", Cond.fieldLink RX10 163 "LadleKings$State" "pieces" "[I", Cond.methodLink RX10 166 arraycopyName, Cond.native arraycopyName, Cond.static arraycopyName, Cond.initialized "java/lang/System", Cond.fieldLink RX10 176 "LadleKings$State" "bone" "I", Cond.fieldLink RX10 178 "LadleKings$State" "king" "I"]
def wsX10_readLine_r6 : List Cond := [Cond.methodLink RX10 184 Lib.Math.max.name, Cond.static Lib.Math.max.name, Cond.initialized "java/lang/Math", Cond.code Lib.Math.max.name Lib.Math.max.code 2 (some .int), Cond.fieldLink RX10 189 "LadleKings$State" "spoons" "[I", Cond.fieldLink RX10 191 "LadleKings$Rules" "need" "[I", Cond.methodLink RX10 172 yX10_heed, Cond.instanceMethod yX10_heed, Cond.selects RX10 yX10_heed yX10_heed, Cond.code yX10_heed cX10_heed 2 none, Cond.fieldLink RX10 38 "LadleKings$TextReader" "greatest" "I", Cond.methodLink RX10 180 yX8_setFriend, Cond.instanceMethod yX8_setFriend, Cond.selects RX8 yX8_setFriend yX8_setFriend, Cond.initialized RX8, Cond.code yX8_setFriend cX8_setFriend 4 none, Cond.fieldLink RX8 15 "LadleKings$State" "friends" "[I", Cond.methodLink RX10 193 yX10_takeStir, Cond.instanceMethod yX10_takeStir, Cond.selects RX10 yX10_takeStir yX10_takeStir, Cond.code yX10_takeStir cX10_takeStir 4 none, Cond.methodLink RX10 197 yX6_addStir, Cond.instanceMethod yX6_addStir, Cond.selects RX6 yX6_addStir yX6_addStir]
def wsX10_readLine_r7 : List Cond := [Cond.initialized RX6, Cond.code yX6_addStir cX6_addStir 4 none, Cond.fieldLink RX6 15 "LadleKings$Rules" "stirs" "I", Cond.fieldLink RX6 22 "LadleKings$Rules" "kind" "[I", Cond.fieldLink RX6 25 "LadleKings$Rules" "first" "[I", Cond.fieldLink RX6 28 "LadleKings$Rules" "second" "[I", Cond.methodLink RX10 105 yX10_faultOfNumber, Cond.instanceMethod yX10_faultOfNumber, Cond.selects RX10 yX10_faultOfNumber yX10_faultOfNumber, Cond.code yX10_faultOfNumber cX10_faultOfNumber 6 (some .int), Cond.fieldLink RX10 144 "LadleKings$TextReader" "FIRST_LOW" "[I", Cond.fieldLink RX10 147 "LadleKings$TextReader" "LATER_LOW" "[I", Cond.fieldLink RX10 150 "LadleKings$TextReader" "FIRST_HIGH" "[I", Cond.fieldLink RX10 153 "LadleKings$TextReader" "LATER_HIGH" "[I", Cond.methodLink RX10 156 yX10_isAgain, Cond.instanceMethod yX10_isAgain, Cond.selects RX10 yX10_isAgain yX10_isAgain, Cond.code yX10_isAgain cX10_isAgain 3 (some .boolean), Cond.methodLink RX10 160 yX8_isFriend, Cond.instanceMethod yX8_isFriend, Cond.selects RX8 yX8_isFriend yX8_isFriend, Cond.code yX8_isFriend cX8_isFriend 3 (some .boolean)]
def wsX10_readLine : List Cond := Cond.code yX10_readLine cX10_readLine 4 (some .boolean) :: ((wsX10_readLine_r1 ++ (wsX10_readLine_r2 ++ (wsX10_readLine_r3 ++ (wsX10_readLine_r4 ++ (wsX10_readLine_r5 ++ (wsX10_readLine_r6 ++ wsX10_readLine_r7)))))) ++ wsX100 ++ wsX90 ++ wsX60 ++ wsX80)
def wsX10_readTape_r1 : List Cond := [Cond.fieldLink RX10 25 "LadleKings$TextReader" "faultFound" "I", Cond.fieldLink RX10 38 "LadleKings$TextReader" "greatest" "I", Cond.fieldLink RX10 12 "LadleKings$TextReader" "rules" "LLadleKings$Rules;", Cond.fieldLink RX10 56 "LadleKings$Rules" "seats" "I", Cond.fieldLink RX10 45 "LadleKings$TextReader" "tape" "LLadleKings$Tape;", Cond.fieldLink RX10 59 "LadleKings$Tape" "length" "I", Cond.fieldLink RX10 29 "LadleKings$TextReader" "faultPlace" "I", Cond.fieldLink RX10 32 "LadleKings$TextReader" "lines" "I", Cond.methodLink RX10 49 yX10_begin, Cond.instanceMethod yX10_begin, Cond.selects RX10 yX10_begin yX10_begin, Cond.initialized RX10, Cond.code yX10_begin cX10_begin 1 none, Cond.fieldLink RX10 21 "LadleKings$TextReader" "state" "LLadleKings$State;", Cond.fieldLink RX10 35 "LadleKings$TextReader" "met" "I", Cond.methodLink RX10 71 yX6_reset, Cond.instanceMethod yX6_reset, Cond.selects RX6 yX6_reset yX6_reset, Cond.initialized RX6, Cond.code yX6_reset cX6_reset 1 none, Cond.fieldLink RX6 9 "LadleKings$Rules" "seats" "I", Cond.fieldLink RX6 15 "LadleKings$Rules" "stirs" "I", Cond.fieldLink RX6 18 "LadleKings$Rules" "need" "[I", Cond.methodLink RX6 34 yJ7_fill_53178]
def wsX10_readTape_r2 : List Cond := [Cond.static yJ7_fill_53178, Cond.initialized RJ7, Cond.code yJ7_fill_53178 cJ7_fill_53178 4 none, Cond.methodLink RX10 74 yX8_reset, Cond.instanceMethod yX8_reset, Cond.selects RX8 yX8_reset yX8_reset, Cond.initialized RX8, Cond.code yX8_reset cX8_reset 1 none, Cond.fieldLink RX8 9 "LadleKings$State" "pieces" "[I", Cond.fieldLink RX8 15 "LadleKings$State" "friends" "[I", Cond.fieldLink RX8 18 "LadleKings$State" "spoons" "[I", Cond.fieldLink RX8 21 "LadleKings$State" "eaten" "[I", Cond.fieldLink RX8 27 "LadleKings$State" "seenDays" "I", Cond.fieldLink RX8 31 "LadleKings$State" "bone" "I", Cond.fieldLink RX8 34 "LadleKings$State" "king" "I", Cond.fieldLink RX8 37 "LadleKings$State" "days" "I", Cond.methodLink RX8 40 yJ7_fill_53178, Cond.methodLink RX10 75 yX9_rewind, Cond.instanceMethod yX9_rewind, Cond.selects RX9 yX9_rewind yX9_rewind, Cond.initialized RX9, Cond.code yX9_rewind cX9_rewind 1 none, Cond.fieldLink RX9 19 "LadleKings$Tape" "at" "I", Cond.methodLink RX10 52 yX10_readLine]
def wsX10_readTape_r3 : List Cond := [Cond.instanceMethod yX10_readLine, Cond.selects RX10 yX10_readLine yX10_readLine, Cond.code yX10_readLine cX10_readLine 4 (some .boolean), Cond.fieldLink RX10 81 "LadleKings$Tape" "token" "I", Cond.fieldLink RX10 92 "LadleKings$Tape" "start" "I", Cond.fieldLink RX10 95 "LadleKings$TextReader" "MOST" "[I", Cond.fieldLink RX10 98 "LadleKings$TextReader" "FEWEST" "[I", Cond.fieldLink RX10 41 "LadleKings$TextReader" "numbers" "[I", Cond.fieldLink RX10 109 "LadleKings$Tape" "value" "I", Cond.methodLink RX10 78 yX9_readToken, Cond.instanceMethod yX9_readToken, Cond.selects RX9 yX9_readToken yX9_readToken, Cond.code yX9_readToken cX9_readToken 1 none, Cond.fieldLink RX9 15 "LadleKings$Tape" "length" "I", Cond.fieldLink RX9 9 "LadleKings$Tape" "bytes" "[B", Cond.fieldLink RX9 25 "LadleKings$Tape" "start" "I", Cond.fieldLink RX9 22 "LadleKings$Tape" "token" "I", Cond.methodLink RX9 31 yX9_isLetter, Cond.static yX9_isLetter, Cond.code yX9_isLetter cX9_isLetter 1 (some .boolean), Cond.methodLink RX9 35 yX9_readName, Cond.instanceMethod yX9_readName, Cond.selects RX9 yX9_readName yX9_readName, Cond.code yX9_readName cX9_readName 1 none]
def wsX10_readTape_r4 : List Cond := [Cond.methodLink RX9 38 yX9_isFigure, Cond.static yX9_isFigure, Cond.code yX9_isFigure cX9_isFigure 1 (some .boolean), Cond.methodLink RX9 41 yX9_readFigures, Cond.instanceMethod yX9_readFigures, Cond.selects RX9 yX9_readFigures yX9_readFigures, Cond.code yX9_readFigures cX9_readFigures 1 none, Cond.fieldLink RX9 28 "LadleKings$Tape" "value" "I", Cond.methodLink RX10 84 yX10_nameRead, Cond.instanceMethod yX10_nameRead, Cond.selects RX10 yX10_nameRead yX10_nameRead, Cond.code yX10_nameRead cX10_nameRead 2 (some .int), Cond.methodLink RX10 112 yX10_nameOf, Cond.static yX10_nameOf, Cond.code yX10_nameOf cX10_nameOf 1 (some (.object "java/lang/String")), Cond.methodLink RX10 116 yX9_isNamed, Cond.instanceMethod yX9_isNamed, Cond.selects RX9 yX9_isNamed yX9_isNamed, Cond.code yX9_isNamed cX9_isNamed 3 (some .boolean), Cond.methodLink RX9 44 yJ0_length_8abf5, Cond.instanceMethod yJ0_length_8abf5, Cond.selects RJ0 yJ0_length_8abf5 yJ0_length_8abf5, Cond.initialized RJ0, Cond.code yJ0_length_8abf5 cJ0_length_8abf5 1 (some .int)]
def wsX10_readTape_r5 : List Cond := [Cond.fieldLink RJ0 9 "java/lang/String" "value" "[B", Cond.methodLink RJ0 335 yJ0_coder_7d493, Cond.instanceMethod yJ0_coder_7d493, Cond.selects RJ0 yJ0_coder_7d493 yJ0_coder_7d493, Cond.code yJ0_coder_7d493 cJ0_coder_7d493 1 (some .byte), Cond.fieldLink RJ0 38 "java/lang/String" "COMPACT_STRINGS" "Z", Cond.fieldLink RJ0 15 "java/lang/String" "coder" "B", Cond.methodLink RX9 49 yJ0_charAt_5068e, Cond.instanceMethod yJ0_charAt_5068e, Cond.selects RJ0 yJ0_charAt_5068e yJ0_charAt_5068e, Cond.code yJ0_charAt_5068e cJ0_charAt_5068e 2 (some .char), Cond.methodLink RJ0 492 yJ0_isLatin1_aae02, Cond.instanceMethod yJ0_isLatin1_aae02, Cond.selects RJ0 yJ0_isLatin1_aae02 yJ0_isLatin1_aae02, Cond.code yJ0_isLatin1_aae02 cJ0_isLatin1_aae02 1 (some .boolean), Cond.methodLink RJ0 495 yJ1_charAt_3b067, Cond.static yJ1_charAt_3b067, Cond.initialized RJ1, Cond.code yJ1_charAt_3b067 cJ1_charAt_3b067 2 (some .char), Cond.methodLink RJ1 9 yJ0_checkIndex_df160, Cond.static yJ0_checkIndex_df160, Cond.code yJ0_checkIndex_df160 cJ0_checkIndex_df160 2 none, Cond.fieldLink RJ0 1053 "jdk/internal/util/Preconditions" "SIOOBE_FORMATTER" "Ljava/util/function/BiFunction;", Cond.methodLink RJ0 1059 yJ3_checkIndex_8e157]
def wsX10_readTape_r6 : List Cond := [Cond.static yJ3_checkIndex_8e157, Cond.initialized RJ3, Cond.code yJ3_checkIndex_8e157 cJ3_checkIndex_8e157 3 (some .int), Cond.methodLink RJ0 498 yJ2_charAt_3b067, Cond.static yJ2_charAt_3b067, Cond.initialized RJ2, Cond.code yJ2_charAt_3b067 cJ2_charAt_3b067 2 (some .char), Cond.methodLink RJ2 67 yJ2_checkIndex_2214a, Cond.static yJ2_checkIndex_2214a, Cond.code yJ2_checkIndex_2214a cJ2_checkIndex_2214a 2 none, Cond.methodLink RJ2 48 yJ2_length_9d52b, Cond.static yJ2_length_9d52b, Cond.code yJ2_length_9d52b cJ2_length_9d52b 1 (some .int), Cond.methodLink RJ2 414 yJ0_checkIndex_df160, Cond.methodLink RJ2 71 yJ2_getChar_3b067, Cond.static yJ2_getChar_3b067, Cond.code yJ2_getChar_3b067 cJ2_getChar_3b067 2 (some .char), Cond.fieldLink RJ2 44 "java/lang/StringUTF16" "$assertionsDisabled" "Z", Cond.fieldLink RJ2 59 "java/lang/StringUTF16" "HI_BYTE_SHIFT" "I", Cond.fieldLink RJ2 63 "java/lang/StringUTF16" "LO_BYTE_SHIFT" "I", Cond.methodLink RX10 88 yX10_faultOfName, Cond.instanceMethod yX10_faultOfName, Cond.selects RX10 yX10_faultOfName yX10_faultOfName, Cond.code yX10_faultOfName cX10_faultOfName 2 (some .int)]
def wsX10_readTape_r7 : List Cond := [Cond.fieldLink RX10 141 "LadleKings$Rules" "stirs" "I", Cond.methodLink RX10 64 yX10_refuse, Cond.instanceMethod yX10_refuse, Cond.selects RX10 yX10_refuse yX10_refuse, Cond.code yX10_refuse cX10_refuse 3 (some .boolean), Cond.methodLink RX10 101 yX10_takeLine, Cond.instanceMethod yX10_takeLine, Cond.selects RX10 yX10_takeLine yX10_takeLine, Cond.code yX10_takeLine cX10_takeLine 5 none, Cond.fieldLink RX10 163 "LadleKings$State" "pieces" "[I", Cond.methodLink RX10 166 arraycopyName, Cond.native arraycopyName, Cond.static arraycopyName, Cond.initialized "java/lang/System", Cond.fieldLink RX10 176 "LadleKings$State" "bone" "I", Cond.fieldLink RX10 178 "LadleKings$State" "king" "I", Cond.methodLink RX10 184 Lib.Math.max.name, Cond.static Lib.Math.max.name, Cond.initialized "java/lang/Math", Cond.code Lib.Math.max.name Lib.Math.max.code 2 (some .int), Cond.fieldLink RX10 189 "LadleKings$State" "spoons" "[I", Cond.fieldLink RX10 191 "LadleKings$Rules" "need" "[I", Cond.methodLink RX10 172 yX10_heed, Cond.instanceMethod yX10_heed]
def wsX10_readTape_r8 : List Cond := [Cond.selects RX10 yX10_heed yX10_heed, Cond.code yX10_heed cX10_heed 2 none, Cond.methodLink RX10 180 yX8_setFriend, Cond.instanceMethod yX8_setFriend, Cond.selects RX8 yX8_setFriend yX8_setFriend, Cond.code yX8_setFriend cX8_setFriend 4 none, Cond.methodLink RX10 193 yX10_takeStir, Cond.instanceMethod yX10_takeStir, Cond.selects RX10 yX10_takeStir yX10_takeStir, Cond.code yX10_takeStir cX10_takeStir 4 none, Cond.methodLink RX10 197 yX6_addStir, Cond.instanceMethod yX6_addStir, Cond.selects RX6 yX6_addStir yX6_addStir, Cond.code yX6_addStir cX6_addStir 4 none, Cond.fieldLink RX6 22 "LadleKings$Rules" "kind" "[I", Cond.fieldLink RX6 25 "LadleKings$Rules" "first" "[I", Cond.fieldLink RX6 28 "LadleKings$Rules" "second" "[I", Cond.methodLink RX10 105 yX10_faultOfNumber, Cond.instanceMethod yX10_faultOfNumber, Cond.selects RX10 yX10_faultOfNumber yX10_faultOfNumber, Cond.code yX10_faultOfNumber cX10_faultOfNumber 6 (some .int), Cond.fieldLink RX10 144 "LadleKings$TextReader" "FIRST_LOW" "[I", Cond.fieldLink RX10 147 "LadleKings$TextReader" "LATER_LOW" "[I", Cond.fieldLink RX10 150 "LadleKings$TextReader" "FIRST_HIGH" "[I"]
def wsX10_readTape_r9 : List Cond := [Cond.fieldLink RX10 153 "LadleKings$TextReader" "LATER_HIGH" "[I", Cond.methodLink RX10 156 yX10_isAgain, Cond.instanceMethod yX10_isAgain, Cond.selects RX10 yX10_isAgain yX10_isAgain, Cond.code yX10_isAgain cX10_isAgain 3 (some .boolean), Cond.methodLink RX10 160 yX8_isFriend, Cond.instanceMethod yX8_isFriend, Cond.selects RX8 yX8_isFriend yX8_isFriend, Cond.code yX8_isFriend cX8_isFriend 3 (some .boolean), Cond.methodLink RX10 68 yX6_workOutStirs, Cond.instanceMethod yX6_workOutStirs, Cond.selects RX6 yX6_workOutStirs yX6_workOutStirs, Cond.code yX6_workOutStirs cX6_workOutStirs 3 none, Cond.fieldLink RX6 31 "LadleKings$Rules" "after" "[I", Cond.methodLink RX6 46 yX6_workOut, Cond.instanceMethod yX6_workOut, Cond.selects RX6 yX6_workOut yX6_workOut, Cond.code yX6_workOut cX6_workOut 3 (some .int), Cond.methodLink RX6 50 yX6_inRing, Cond.instanceMethod yX6_inRing, Cond.selects RX6 yX6_inRing yX6_inRing, Cond.code yX6_inRing cX6_inRing 4 (some .int), Cond.methodLink RX6 54 yX6_swapped, Cond.static yX6_swapped]
def wsX10_readTape_r10 : List Cond := [Cond.code yX6_swapped cX6_swapped 3 (some .int), Cond.methodLink RX6 58 yX6_lifted, Cond.static yX6_lifted, Cond.code yX6_lifted cX6_lifted 2 (some .int)]
def wsX10_readTape : List Cond := Cond.code yX10_readTape cX10_readTape 3 (some .int) :: ((wsX10_readTape_r1 ++ (wsX10_readTape_r2 ++ (wsX10_readTape_r3 ++ (wsX10_readTape_r4 ++ (wsX10_readTape_r5 ++ (wsX10_readTape_r6 ++ (wsX10_readTape_r7 ++ (wsX10_readTape_r8 ++ (wsX10_readTape_r9 ++ wsX10_readTape_r10))))))))) ++ wsX100 ++ wsX60 ++ wsX90 ++ wsX80)
def wsX11_init_r1 : List Cond := [Cond.methodLink RX11 1 objectInit, Cond.instanceMethod objectInit, Cond.code objectInit ⟨#[0xb1]⟩ 1 none, Cond.classLink RX11 7 RX6, Cond.instantiable RX6 7, Cond.initialized RX6, Cond.fieldLink RX11 10 "LadleKings" "rules" "LLadleKings$Rules;", Cond.classLink RX11 16 RX8, Cond.instantiable RX8 9, Cond.initialized RX8, Cond.fieldLink RX11 19 "LadleKings" "state" "LLadleKings$State;", Cond.classLink RX11 23 RX9, Cond.instantiable RX9 6, Cond.initialized RX9, Cond.fieldLink RX11 26 "LadleKings" "tape" "LLadleKings$Tape;", Cond.classLink RX11 30 RX10, Cond.instantiable RX10 9, Cond.initialized RX10, Cond.fieldLink RX11 35 "LadleKings" "reader" "LLadleKings$TextReader;", Cond.classLink RX11 39 RX2, Cond.instantiable RX2 5, Cond.initialized RX2, Cond.fieldLink RX11 44 "LadleKings" "kitchen" "LLadleKings$Kitchen;", Cond.classLink RX11 48 RX3]
def wsX11_init_r2 : List Cond := [Cond.instantiable RX3 4, Cond.initialized RX3, Cond.fieldLink RX11 53 "LadleKings" "luck" "LLadleKings$Luck;", Cond.classLink RX11 57 RX5, Cond.instantiable RX5 3, Cond.initialized RX5, Cond.fieldLink RX11 60 "LadleKings" "plans" "LLadleKings$Plans;", Cond.classLink RX11 64 RX0, Cond.instantiable RX0 1, Cond.initialized RX0, Cond.fieldLink RX11 67 "LadleKings" "coups" "LLadleKings$Coups;", Cond.classLink RX11 71 RX4, Cond.instantiable RX4 2, Cond.initialized RX4, Cond.fieldLink RX11 74 "LadleKings" "past" "LLadleKings$Past;", Cond.classLink RX11 78 RX1, Cond.instantiable RX1 9, Cond.initialized RX1, Cond.fieldLink RX11 81 "LadleKings" "fairDays" "LLadleKings$FairDays;", Cond.fieldLink RX11 85 "LadleKings" "images" "[LLadleKings$State;", Cond.arrayClass .boolean, Cond.fieldLink RX11 89 "LadleKings" "imageHeld" "[Z", Cond.classLink RX11 93 RX7, Cond.fieldLink RX11 95 "LadleKings" "sheets" "[LLadleKings$Sheet;"]
def wsX11_init_r3 : List Cond := [Cond.fieldLink RX11 99 "LadleKings" "latestFault" "I", Cond.fieldLink RX11 103 "LadleKings" "latestTear" "I", Cond.instantiable RX7 3, Cond.initialized RX7, Cond.instanceMethod yX6_init, Cond.code yX6_init cX6_init 1 none, Cond.methodLink RX6 3 objectInit, Cond.fieldLink RX6 9 "LadleKings$Rules" "seats" "I", Cond.fieldLink RX6 15 "LadleKings$Rules" "stirs" "I", Cond.arrayClass .int, Cond.fieldLink RX6 18 "LadleKings$Rules" "need" "[I", Cond.fieldLink RX6 22 "LadleKings$Rules" "kind" "[I", Cond.fieldLink RX6 25 "LadleKings$Rules" "first" "[I", Cond.fieldLink RX6 28 "LadleKings$Rules" "second" "[I", Cond.fieldLink RX6 31 "LadleKings$Rules" "after" "[I", Cond.methodLink RX11 18 yX8_init, Cond.instanceMethod yX8_init, Cond.code yX8_init cX8_init 1 none, Cond.methodLink RX8 3 objectInit, Cond.fieldLink RX8 9 "LadleKings$State" "pieces" "[I", Cond.fieldLink RX8 15 "LadleKings$State" "friends" "[I", Cond.fieldLink RX8 18 "LadleKings$State" "spoons" "[I", Cond.fieldLink RX8 21 "LadleKings$State" "eaten" "[I", Cond.fieldLink RX8 24 "LadleKings$State" "seen" "[I"]
def wsX11_init_r4 : List Cond := [Cond.fieldLink RX8 27 "LadleKings$State" "seenDays" "I", Cond.fieldLink RX8 31 "LadleKings$State" "bone" "I", Cond.fieldLink RX8 34 "LadleKings$State" "king" "I", Cond.fieldLink RX8 37 "LadleKings$State" "days" "I", Cond.methodLink RX8 40 yJ7_fill_53178, Cond.static yJ7_fill_53178, Cond.initialized RJ7, Cond.code yJ7_fill_53178 cJ7_fill_53178 4 none, Cond.instanceMethod yX9_init, Cond.code yX9_init cX9_init 1 none, Cond.methodLink RX9 3 objectInit, Cond.arrayClass .byte, Cond.fieldLink RX9 9 "LadleKings$Tape" "bytes" "[B", Cond.fieldLink RX9 15 "LadleKings$Tape" "length" "I", Cond.fieldLink RX9 19 "LadleKings$Tape" "at" "I", Cond.fieldLink RX9 22 "LadleKings$Tape" "token" "I", Cond.fieldLink RX9 25 "LadleKings$Tape" "start" "I", Cond.fieldLink RX9 28 "LadleKings$Tape" "value" "I", Cond.methodLink RX11 32 yX10_init, Cond.instanceMethod yX10_init, Cond.code yX10_init cX10_init 2 none, Cond.methodLink RX10 3 objectInit, Cond.classLink RX10 9 RX6, Cond.fieldLink RX10 12 "LadleKings$TextReader" "rules" "LLadleKings$Rules;"]
def wsX11_init_r5 : List Cond := [Cond.classLink RX10 18 RX8, Cond.fieldLink RX10 21 "LadleKings$TextReader" "state" "LLadleKings$State;", Cond.fieldLink RX10 25 "LadleKings$TextReader" "faultFound" "I", Cond.fieldLink RX10 29 "LadleKings$TextReader" "faultPlace" "I", Cond.fieldLink RX10 32 "LadleKings$TextReader" "lines" "I", Cond.fieldLink RX10 35 "LadleKings$TextReader" "met" "I", Cond.fieldLink RX10 38 "LadleKings$TextReader" "greatest" "I", Cond.fieldLink RX10 41 "LadleKings$TextReader" "numbers" "[I", Cond.fieldLink RX10 45 "LadleKings$TextReader" "tape" "LLadleKings$Tape;", Cond.methodLink RX10 20 yX8_init, Cond.methodLink RX11 41 yX2_init, Cond.instanceMethod yX2_init, Cond.code yX2_init cX2_init 3 none, Cond.methodLink RX2 3 objectInit, Cond.fieldLink RX2 9 "LadleKings$Kitchen" "places" "[I", Cond.fieldLink RX2 15 "LadleKings$Kitchen" "holders" "[I", Cond.fieldLink RX2 18 "LadleKings$Kitchen" "stirred" "[I", Cond.fieldLink RX2 21 "LadleKings$Kitchen" "rules" "LLadleKings$Rules;", Cond.fieldLink RX2 25 "LadleKings$Kitchen" "state" "LLadleKings$State;", Cond.methodLink RX11 50 yX3_init, Cond.instanceMethod yX3_init, Cond.code yX3_init cX3_init 2 none, Cond.methodLink RX3 3 objectInit, Cond.arrayClass .long]
def wsX11_init_r6 : List Cond := [Cond.fieldLink RX3 11 "LadleKings$Luck" "rows" "[J", Cond.fieldLink RX3 15 "LadleKings$Luck" "later" "[J", Cond.fieldLink RX3 18 "LadleKings$Luck" "finds" "[J", Cond.fieldLink RX3 21 "LadleKings$Luck" "kitchen" "LLadleKings$Kitchen;", Cond.methodLink RX11 59 yX5_init, Cond.instanceMethod yX5_init, Cond.code yX5_init cX5_init 2 none, Cond.methodLink RX5 3 objectInit, Cond.fieldLink RX5 9 "LadleKings$Plans" "good" "[J", Cond.fieldLink RX5 15 "LadleKings$Plans" "row" "[I", Cond.fieldLink RX5 19 "LadleKings$Plans" "kitchen" "LLadleKings$Kitchen;", Cond.methodLink RX11 66 yX0_init, Cond.instanceMethod yX0_init, Cond.code yX0_init cX0_init 2 none, Cond.methodLink RX0 3 objectInit, Cond.fieldLink RX0 9 "LadleKings$Coups" "kitchen" "LLadleKings$Kitchen;", Cond.methodLink RX11 73 yX4_init, Cond.instanceMethod yX4_init, Cond.code yX4_init cX4_init 2 none, Cond.methodLink RX4 3 objectInit, Cond.fieldLink RX4 9 "LadleKings$Past" "fitting" "[I", Cond.fieldLink RX4 15 "LadleKings$Past" "kitchen" "LLadleKings$Kitchen;", Cond.methodLink RX11 80 yX1_init, Cond.instanceMethod yX1_init]
def wsX11_init_r7 : List Cond := [Cond.code yX1_init cX1_init 2 none, Cond.methodLink RX1 3 objectInit, Cond.fieldLink RX1 11 "LadleKings$FairDays" "pots" "[I", Cond.fieldLink RX1 15 "LadleKings$FairDays" "sums" "[I", Cond.fieldLink RX1 18 "LadleKings$FairDays" "kings" "[I", Cond.fieldLink RX1 21 "LadleKings$FairDays" "bones" "[I", Cond.fieldLink RX1 24 "LadleKings$FairDays" "row" "[I", Cond.fieldLink RX1 27 "LadleKings$FairDays" "bestRow" "[I", Cond.fieldLink RX1 30 "LadleKings$FairDays" "days" "I", Cond.fieldLink RX1 34 "LadleKings$FairDays" "least" "I", Cond.fieldLink RX1 37 "LadleKings$FairDays" "kitchen" "LLadleKings$Kitchen;", Cond.instanceMethod yX7_init, Cond.code yX7_init cX7_init 1 none, Cond.methodLink RX7 3 objectInit, Cond.fieldLink RX7 9 "LadleKings$Sheet" "lane" "I", Cond.fieldLink RX7 15 "LadleKings$Sheet" "size" "I", Cond.fieldLink RX7 18 "LadleKings$Sheet" "cells" "[I"]
def wsX11_init : List Cond := Cond.code yX11_init cX11_init 2 none :: ((wsX11_init_r1 ++ (wsX11_init_r2 ++ (wsX11_init_r3 ++ (wsX11_init_r4 ++ (wsX11_init_r5 ++ (wsX11_init_r6 ++ wsX11_init_r7)))))) ++ wsX60 ++ wsX110 ++ wsX80 ++ wsX90 ++ wsX100 ++ wsX20 ++ wsX30 ++ wsX50 ++ wsX00 ++ wsX40 ++ wsX10 ++ wsX70)
def wsX11_feed : List Cond := Cond.code yX11_feed cX11_feed 3 (some .int) :: ([Cond.fieldLink RX11 26 "LadleKings" "tape" "LLadleKings$Tape;", Cond.fieldLink RX11 111 "LadleKings$Tape" "length" "I", Cond.methodLink RX11 107 yX9_append, Cond.instanceMethod yX9_append, Cond.selects RX9 yX9_append yX9_append, Cond.initialized RX9, Cond.code yX9_append cX9_append 4 (some .boolean), Cond.fieldLink RX9 15 "LadleKings$Tape" "length" "I", Cond.fieldLink RX9 9 "LadleKings$Tape" "bytes" "[B"] ++ wsX110 ++ wsX90)
def wsX11_end : List Cond := Cond.code yX11_end cX11_end 3 (some .int) :: ([Cond.fieldLink RX11 26 "LadleKings" "tape" "LLadleKings$Tape;", Cond.fieldLink RX11 111 "LadleKings$Tape" "length" "I"] ++ wsX110 ++ wsX90)
def wsX11_text_r1 : List Cond := [Cond.fieldLink RX11 35 "LadleKings" "reader" "LLadleKings$TextReader;", Cond.fieldLink RX11 26 "LadleKings" "tape" "LLadleKings$Tape;", Cond.fieldLink RX11 111 "LadleKings$Tape" "length" "I", Cond.fieldLink RX11 118 "LadleKings$TextReader" "faultFound" "I", Cond.fieldLink RX11 99 "LadleKings" "latestFault" "I", Cond.fieldLink RX11 10 "LadleKings" "rules" "LLadleKings$Rules;", Cond.fieldLink RX11 121 "LadleKings$TextReader" "rules" "LLadleKings$Rules;", Cond.fieldLink RX11 19 "LadleKings" "state" "LLadleKings$State;", Cond.fieldLink RX11 126 "LadleKings$TextReader" "state" "LLadleKings$State;", Cond.fieldLink RX11 89 "LadleKings" "imageHeld" "[Z", Cond.methodLink RX11 114 yX10_readTape, Cond.instanceMethod yX10_readTape, Cond.selects RX10 yX10_readTape yX10_readTape, Cond.initialized RX10, Cond.code yX10_readTape cX10_readTape 3 (some .int), Cond.fieldLink RX10 25 "LadleKings$TextReader" "faultFound" "I", Cond.fieldLink RX10 38 "LadleKings$TextReader" "greatest" "I", Cond.fieldLink RX10 12 "LadleKings$TextReader" "rules" "LLadleKings$Rules;", Cond.fieldLink RX10 56 "LadleKings$Rules" "seats" "I", Cond.fieldLink RX10 45 "LadleKings$TextReader" "tape" "LLadleKings$Tape;", Cond.fieldLink RX10 59 "LadleKings$Tape" "length" "I", Cond.fieldLink RX10 29 "LadleKings$TextReader" "faultPlace" "I", Cond.fieldLink RX10 32 "LadleKings$TextReader" "lines" "I", Cond.methodLink RX10 49 yX10_begin]
def wsX11_text_r2 : List Cond := [Cond.instanceMethod yX10_begin, Cond.selects RX10 yX10_begin yX10_begin, Cond.code yX10_begin cX10_begin 1 none, Cond.fieldLink RX10 21 "LadleKings$TextReader" "state" "LLadleKings$State;", Cond.fieldLink RX10 35 "LadleKings$TextReader" "met" "I", Cond.methodLink RX10 71 yX6_reset, Cond.instanceMethod yX6_reset, Cond.selects RX6 yX6_reset yX6_reset, Cond.initialized RX6, Cond.code yX6_reset cX6_reset 1 none, Cond.fieldLink RX6 9 "LadleKings$Rules" "seats" "I", Cond.fieldLink RX6 15 "LadleKings$Rules" "stirs" "I", Cond.fieldLink RX6 18 "LadleKings$Rules" "need" "[I", Cond.methodLink RX6 34 yJ7_fill_53178, Cond.static yJ7_fill_53178, Cond.initialized RJ7, Cond.code yJ7_fill_53178 cJ7_fill_53178 4 none, Cond.methodLink RX10 74 yX8_reset, Cond.instanceMethod yX8_reset, Cond.selects RX8 yX8_reset yX8_reset, Cond.initialized RX8, Cond.code yX8_reset cX8_reset 1 none, Cond.fieldLink RX8 9 "LadleKings$State" "pieces" "[I", Cond.fieldLink RX8 15 "LadleKings$State" "friends" "[I"]
def wsX11_text_r3 : List Cond := [Cond.fieldLink RX8 18 "LadleKings$State" "spoons" "[I", Cond.fieldLink RX8 21 "LadleKings$State" "eaten" "[I", Cond.fieldLink RX8 27 "LadleKings$State" "seenDays" "I", Cond.fieldLink RX8 31 "LadleKings$State" "bone" "I", Cond.fieldLink RX8 34 "LadleKings$State" "king" "I", Cond.fieldLink RX8 37 "LadleKings$State" "days" "I", Cond.methodLink RX8 40 yJ7_fill_53178, Cond.methodLink RX10 75 yX9_rewind, Cond.instanceMethod yX9_rewind, Cond.selects RX9 yX9_rewind yX9_rewind, Cond.initialized RX9, Cond.code yX9_rewind cX9_rewind 1 none, Cond.fieldLink RX9 19 "LadleKings$Tape" "at" "I", Cond.methodLink RX10 52 yX10_readLine, Cond.instanceMethod yX10_readLine, Cond.selects RX10 yX10_readLine yX10_readLine, Cond.code yX10_readLine cX10_readLine 4 (some .boolean), Cond.fieldLink RX10 81 "LadleKings$Tape" "token" "I", Cond.fieldLink RX10 92 "LadleKings$Tape" "start" "I", Cond.fieldLink RX10 95 "LadleKings$TextReader" "MOST" "[I", Cond.fieldLink RX10 98 "LadleKings$TextReader" "FEWEST" "[I", Cond.fieldLink RX10 41 "LadleKings$TextReader" "numbers" "[I", Cond.fieldLink RX10 109 "LadleKings$Tape" "value" "I", Cond.methodLink RX10 78 yX9_readToken]
def wsX11_text_r4 : List Cond := [Cond.instanceMethod yX9_readToken, Cond.selects RX9 yX9_readToken yX9_readToken, Cond.code yX9_readToken cX9_readToken 1 none, Cond.fieldLink RX9 15 "LadleKings$Tape" "length" "I", Cond.fieldLink RX9 9 "LadleKings$Tape" "bytes" "[B", Cond.fieldLink RX9 25 "LadleKings$Tape" "start" "I", Cond.fieldLink RX9 22 "LadleKings$Tape" "token" "I", Cond.methodLink RX9 31 yX9_isLetter, Cond.static yX9_isLetter, Cond.code yX9_isLetter cX9_isLetter 1 (some .boolean), Cond.methodLink RX9 35 yX9_readName, Cond.instanceMethod yX9_readName, Cond.selects RX9 yX9_readName yX9_readName, Cond.code yX9_readName cX9_readName 1 none, Cond.methodLink RX9 38 yX9_isFigure, Cond.static yX9_isFigure, Cond.code yX9_isFigure cX9_isFigure 1 (some .boolean), Cond.methodLink RX9 41 yX9_readFigures, Cond.instanceMethod yX9_readFigures, Cond.selects RX9 yX9_readFigures yX9_readFigures, Cond.code yX9_readFigures cX9_readFigures 1 none, Cond.fieldLink RX9 28 "LadleKings$Tape" "value" "I", Cond.methodLink RX10 84 yX10_nameRead, Cond.instanceMethod yX10_nameRead]
def wsX11_text_r5 : List Cond := [Cond.selects RX10 yX10_nameRead yX10_nameRead, Cond.code yX10_nameRead cX10_nameRead 2 (some .int), Cond.methodLink RX10 112 yX10_nameOf, Cond.static yX10_nameOf, Cond.code yX10_nameOf cX10_nameOf 1 (some (.object "java/lang/String")), Cond.methodLink RX10 116 yX9_isNamed, Cond.instanceMethod yX9_isNamed, Cond.selects RX9 yX9_isNamed yX9_isNamed, Cond.code yX9_isNamed cX9_isNamed 3 (some .boolean), Cond.methodLink RX9 44 yJ0_length_8abf5, Cond.instanceMethod yJ0_length_8abf5, Cond.selects RJ0 yJ0_length_8abf5 yJ0_length_8abf5, Cond.initialized RJ0, Cond.code yJ0_length_8abf5 cJ0_length_8abf5 1 (some .int), Cond.fieldLink RJ0 9 "java/lang/String" "value" "[B", Cond.methodLink RJ0 335 yJ0_coder_7d493, Cond.instanceMethod yJ0_coder_7d493, Cond.selects RJ0 yJ0_coder_7d493 yJ0_coder_7d493, Cond.code yJ0_coder_7d493 cJ0_coder_7d493 1 (some .byte), Cond.fieldLink RJ0 38 "java/lang/String" "COMPACT_STRINGS" "Z", Cond.fieldLink RJ0 15 "java/lang/String" "coder" "B", Cond.methodLink RX9 49 yJ0_charAt_5068e, Cond.instanceMethod yJ0_charAt_5068e, Cond.selects RJ0 yJ0_charAt_5068e yJ0_charAt_5068e]
def wsX11_text_r6 : List Cond := [Cond.code yJ0_charAt_5068e cJ0_charAt_5068e 2 (some .char), Cond.methodLink RJ0 492 yJ0_isLatin1_aae02, Cond.instanceMethod yJ0_isLatin1_aae02, Cond.selects RJ0 yJ0_isLatin1_aae02 yJ0_isLatin1_aae02, Cond.code yJ0_isLatin1_aae02 cJ0_isLatin1_aae02 1 (some .boolean), Cond.methodLink RJ0 495 yJ1_charAt_3b067, Cond.static yJ1_charAt_3b067, Cond.initialized RJ1, Cond.code yJ1_charAt_3b067 cJ1_charAt_3b067 2 (some .char), Cond.methodLink RJ1 9 yJ0_checkIndex_df160, Cond.static yJ0_checkIndex_df160, Cond.code yJ0_checkIndex_df160 cJ0_checkIndex_df160 2 none, Cond.fieldLink RJ0 1053 "jdk/internal/util/Preconditions" "SIOOBE_FORMATTER" "Ljava/util/function/BiFunction;", Cond.methodLink RJ0 1059 yJ3_checkIndex_8e157, Cond.static yJ3_checkIndex_8e157, Cond.initialized RJ3, Cond.code yJ3_checkIndex_8e157 cJ3_checkIndex_8e157 3 (some .int), Cond.methodLink RJ0 498 yJ2_charAt_3b067, Cond.static yJ2_charAt_3b067, Cond.initialized RJ2, Cond.code yJ2_charAt_3b067 cJ2_charAt_3b067 2 (some .char), Cond.methodLink RJ2 67 yJ2_checkIndex_2214a, Cond.static yJ2_checkIndex_2214a, Cond.code yJ2_checkIndex_2214a cJ2_checkIndex_2214a 2 none]
def wsX11_text_r7 : List Cond := [Cond.methodLink RJ2 48 yJ2_length_9d52b, Cond.static yJ2_length_9d52b, Cond.code yJ2_length_9d52b cJ2_length_9d52b 1 (some .int), Cond.methodLink RJ2 414 yJ0_checkIndex_df160, Cond.methodLink RJ2 71 yJ2_getChar_3b067, Cond.static yJ2_getChar_3b067, Cond.code yJ2_getChar_3b067 cJ2_getChar_3b067 2 (some .char), Cond.fieldLink RJ2 44 "java/lang/StringUTF16" "$assertionsDisabled" "Z", Cond.fieldLink RJ2 59 "java/lang/StringUTF16" "HI_BYTE_SHIFT" "I", Cond.fieldLink RJ2 63 "java/lang/StringUTF16" "LO_BYTE_SHIFT" "I", Cond.methodLink RX10 88 yX10_faultOfName, Cond.instanceMethod yX10_faultOfName, Cond.selects RX10 yX10_faultOfName yX10_faultOfName, Cond.code yX10_faultOfName cX10_faultOfName 2 (some .int), Cond.fieldLink RX10 141 "LadleKings$Rules" "stirs" "I", Cond.methodLink RX10 64 yX10_refuse, Cond.instanceMethod yX10_refuse, Cond.selects RX10 yX10_refuse yX10_refuse, Cond.code yX10_refuse cX10_refuse 3 (some .boolean), Cond.methodLink RX10 101 yX10_takeLine, Cond.instanceMethod yX10_takeLine, Cond.selects RX10 yX10_takeLine yX10_takeLine, Cond.code yX10_takeLine cX10_takeLine 5 none, Cond.fieldLink RX10 163 "LadleKings$State" "pieces" "[I"]
def wsX11_text_r8 : List Cond := [Cond.methodLink RX10 166 arraycopyName, Cond.native arraycopyName, Cond.static arraycopyName, Cond.initialized "java/lang/System", Cond.fieldLink RX10 176 "LadleKings$State" "bone" "I", Cond.fieldLink RX10 178 "LadleKings$State" "king" "I", Cond.methodLink RX10 184 Lib.Math.max.name, Cond.static Lib.Math.max.name, Cond.initialized "java/lang/Math", Cond.code Lib.Math.max.name Lib.Math.max.code 2 (some .int), Cond.fieldLink RX10 189 "LadleKings$State" "spoons" "[I", Cond.fieldLink RX10 191 "LadleKings$Rules" "need" "[I", Cond.methodLink RX10 172 yX10_heed, Cond.instanceMethod yX10_heed, Cond.selects RX10 yX10_heed yX10_heed, Cond.code yX10_heed cX10_heed 2 none, Cond.methodLink RX10 180 yX8_setFriend, Cond.instanceMethod yX8_setFriend, Cond.selects RX8 yX8_setFriend yX8_setFriend, Cond.code yX8_setFriend cX8_setFriend 4 none, Cond.methodLink RX10 193 yX10_takeStir, Cond.instanceMethod yX10_takeStir, Cond.selects RX10 yX10_takeStir yX10_takeStir, Cond.code yX10_takeStir cX10_takeStir 4 none]
def wsX11_text_r9 : List Cond := [Cond.methodLink RX10 197 yX6_addStir, Cond.instanceMethod yX6_addStir, Cond.selects RX6 yX6_addStir yX6_addStir, Cond.code yX6_addStir cX6_addStir 4 none, Cond.fieldLink RX6 22 "LadleKings$Rules" "kind" "[I", Cond.fieldLink RX6 25 "LadleKings$Rules" "first" "[I", Cond.fieldLink RX6 28 "LadleKings$Rules" "second" "[I", Cond.methodLink RX10 105 yX10_faultOfNumber, Cond.instanceMethod yX10_faultOfNumber, Cond.selects RX10 yX10_faultOfNumber yX10_faultOfNumber, Cond.code yX10_faultOfNumber cX10_faultOfNumber 6 (some .int), Cond.fieldLink RX10 144 "LadleKings$TextReader" "FIRST_LOW" "[I", Cond.fieldLink RX10 147 "LadleKings$TextReader" "LATER_LOW" "[I", Cond.fieldLink RX10 150 "LadleKings$TextReader" "FIRST_HIGH" "[I", Cond.fieldLink RX10 153 "LadleKings$TextReader" "LATER_HIGH" "[I", Cond.methodLink RX10 156 yX10_isAgain, Cond.instanceMethod yX10_isAgain, Cond.selects RX10 yX10_isAgain yX10_isAgain, Cond.code yX10_isAgain cX10_isAgain 3 (some .boolean), Cond.methodLink RX10 160 yX8_isFriend, Cond.instanceMethod yX8_isFriend, Cond.selects RX8 yX8_isFriend yX8_isFriend, Cond.code yX8_isFriend cX8_isFriend 3 (some .boolean), Cond.methodLink RX10 68 yX6_workOutStirs]
def wsX11_text_r10 : List Cond := [Cond.instanceMethod yX6_workOutStirs, Cond.selects RX6 yX6_workOutStirs yX6_workOutStirs, Cond.code yX6_workOutStirs cX6_workOutStirs 3 none, Cond.fieldLink RX6 31 "LadleKings$Rules" "after" "[I", Cond.methodLink RX6 46 yX6_workOut, Cond.instanceMethod yX6_workOut, Cond.selects RX6 yX6_workOut yX6_workOut, Cond.code yX6_workOut cX6_workOut 3 (some .int), Cond.methodLink RX6 50 yX6_inRing, Cond.instanceMethod yX6_inRing, Cond.selects RX6 yX6_inRing yX6_inRing, Cond.code yX6_inRing cX6_inRing 4 (some .int), Cond.methodLink RX6 54 yX6_swapped, Cond.static yX6_swapped, Cond.code yX6_swapped cX6_swapped 3 (some .int), Cond.methodLink RX6 58 yX6_lifted, Cond.static yX6_lifted, Cond.code yX6_lifted cX6_lifted 2 (some .int), Cond.methodLink RX11 122 yX6_copy, Cond.instanceMethod yX6_copy, Cond.selects RX6 yX6_copy yX6_copy, Cond.code yX6_copy cX6_copy 2 none, Cond.methodLink RX6 40 arraycopyName, Cond.methodLink RX11 127 yX8_copy]
def wsX11_text_r11 : List Cond := [Cond.instanceMethod yX8_copy, Cond.selects RX8 yX8_copy yX8_copy, Cond.code yX8_copy cX8_copy 2 none, Cond.methodLink RX8 46 arraycopyName, Cond.fieldLink RX8 24 "LadleKings$State" "seen" "[I"]
def wsX11_text : List Cond := Cond.code yX11_text cX11_text 3 (some .int) :: ((wsX11_text_r1 ++ (wsX11_text_r2 ++ (wsX11_text_r3 ++ (wsX11_text_r4 ++ (wsX11_text_r5 ++ (wsX11_text_r6 ++ (wsX11_text_r7 ++ (wsX11_text_r8 ++ (wsX11_text_r9 ++ (wsX11_text_r10 ++ wsX11_text_r11)))))))))) ++ wsX110 ++ wsX90 ++ wsX100 ++ wsX60 ++ wsX80)
def wsX11_fault : List Cond := Cond.code yX11_fault cX11_fault 1 (some .int) :: ([Cond.fieldLink RX11 99 "LadleKings" "latestFault" "I"] ++ wsX110)
def wsX11_rule : List Cond := Cond.code yX11_rule cX11_rule 2 (some .int) :: ([Cond.fieldLink RX11 10 "LadleKings" "rules" "LLadleKings$Rules;", Cond.fieldLink RX11 130 "LadleKings$Rules" "seats" "I", Cond.fieldLink RX11 133 "LadleKings$Rules" "stirs" "I", Cond.fieldLink RX11 19 "LadleKings" "state" "LLadleKings$State;", Cond.fieldLink RX11 136 "LadleKings$State" "king" "I", Cond.fieldLink RX11 139 "LadleKings$State" "days" "I", Cond.fieldLink RX11 142 "LadleKings$State" "bone" "I"] ++ wsX110 ++ wsX60 ++ wsX80)
def wsX11_pot : List Cond := Cond.code yX11_pot cX11_pot 2 (some .int) :: ([Cond.fieldLink RX11 10 "LadleKings" "rules" "LLadleKings$Rules;", Cond.fieldLink RX11 19 "LadleKings" "state" "LLadleKings$State;", Cond.fieldLink RX11 149 "LadleKings$State" "pieces" "[I", Cond.methodLink RX11 145 yX6_hasSeat, Cond.instanceMethod yX6_hasSeat, Cond.selects RX6 yX6_hasSeat yX6_hasSeat, Cond.initialized RX6, Cond.code yX6_hasSeat cX6_hasSeat 2 (some .boolean), Cond.fieldLink RX6 9 "LadleKings$Rules" "seats" "I"] ++ wsX110 ++ wsX80 ++ wsX60)
def wsX11_one : List Cond := Cond.code yX11_one cX11_one 3 (some .int) :: ([Cond.fieldLink RX11 10 "LadleKings" "rules" "LLadleKings$Rules;", Cond.fieldLink RX11 19 "LadleKings" "state" "LLadleKings$State;", Cond.fieldLink RX11 153 "LadleKings$State" "friends" "[I", Cond.fieldLink RX11 156 "LadleKings$State" "spoons" "[I", Cond.fieldLink RX11 159 "LadleKings$Rules" "need" "[I", Cond.fieldLink RX11 162 "LadleKings$State" "eaten" "[I", Cond.methodLink RX11 145 yX6_hasSeat, Cond.instanceMethod yX6_hasSeat, Cond.selects RX6 yX6_hasSeat yX6_hasSeat, Cond.initialized RX6, Cond.code yX6_hasSeat cX6_hasSeat 2 (some .boolean), Cond.fieldLink RX6 9 "LadleKings$Rules" "seats" "I"] ++ wsX110 ++ wsX80 ++ wsX60)
def wsX11_stir : List Cond := Cond.code yX11_stir cX11_stir 3 (some .int) :: ([Cond.fieldLink RX11 10 "LadleKings" "rules" "LLadleKings$Rules;", Cond.methodLink RX11 165 yX6_hasStir, Cond.instanceMethod yX6_hasStir, Cond.selects RX6 yX6_hasStir yX6_hasStir, Cond.initialized RX6, Cond.code yX6_hasStir cX6_hasStir 2 (some .boolean), Cond.fieldLink RX6 15 "LadleKings$Rules" "stirs" "I", Cond.methodLink RX11 145 yX6_hasSeat, Cond.instanceMethod yX6_hasSeat, Cond.selects RX6 yX6_hasSeat yX6_hasSeat, Cond.code yX6_hasSeat cX6_hasSeat 2 (some .boolean), Cond.fieldLink RX6 9 "LadleKings$Rules" "seats" "I", Cond.methodLink RX11 168 yX6_placeAfter, Cond.instanceMethod yX6_placeAfter, Cond.selects RX6 yX6_placeAfter yX6_placeAfter, Cond.code yX6_placeAfter cX6_placeAfter 3 (some .int), Cond.fieldLink RX6 31 "LadleKings$Rules" "after" "[I"] ++ wsX110 ++ wsX60)
def wsX11_befriend : List Cond := Cond.code yX11_befriend cX11_befriend 5 (some .int) :: ([Cond.fieldLink RX11 10 "LadleKings" "rules" "LLadleKings$Rules;", Cond.fieldLink RX11 19 "LadleKings" "state" "LLadleKings$State;", Cond.methodLink RX11 145 yX6_hasSeat, Cond.instanceMethod yX6_hasSeat, Cond.selects RX6 yX6_hasSeat yX6_hasSeat, Cond.initialized RX6, Cond.code yX6_hasSeat cX6_hasSeat 2 (some .boolean), Cond.fieldLink RX6 9 "LadleKings$Rules" "seats" "I", Cond.methodLink RX11 172 yX8_isFriend, Cond.instanceMethod yX8_isFriend, Cond.selects RX8 yX8_isFriend yX8_isFriend, Cond.initialized RX8, Cond.code yX8_isFriend cX8_isFriend 3 (some .boolean), Cond.fieldLink RX8 15 "LadleKings$State" "friends" "[I", Cond.methodLink RX11 176 yX8_setFriend, Cond.instanceMethod yX8_setFriend, Cond.selects RX8 yX8_setFriend yX8_setFriend, Cond.code yX8_setFriend cX8_setFriend 4 none] ++ wsX110 ++ wsX60 ++ wsX80)
def wsX11_spoon : List Cond := Cond.code yX11_spoon cX11_spoon 4 (some .int) :: ([Cond.fieldLink RX11 10 "LadleKings" "rules" "LLadleKings$Rules;", Cond.fieldLink RX11 19 "LadleKings" "state" "LLadleKings$State;", Cond.fieldLink RX11 156 "LadleKings$State" "spoons" "[I", Cond.methodLink RX11 145 yX6_hasSeat, Cond.instanceMethod yX6_hasSeat, Cond.selects RX6 yX6_hasSeat yX6_hasSeat, Cond.initialized RX6, Cond.code yX6_hasSeat cX6_hasSeat 2 (some .boolean), Cond.fieldLink RX6 9 "LadleKings$Rules" "seats" "I"] ++ wsX110 ++ wsX80 ++ wsX60)
def wsX11_crown : List Cond := Cond.code yX11_crown cX11_crown 3 (some .int) :: ([Cond.fieldLink RX11 10 "LadleKings" "rules" "LLadleKings$Rules;", Cond.fieldLink RX11 19 "LadleKings" "state" "LLadleKings$State;", Cond.fieldLink RX11 136 "LadleKings$State" "king" "I", Cond.methodLink RX11 145 yX6_hasSeat, Cond.instanceMethod yX6_hasSeat, Cond.selects RX6 yX6_hasSeat yX6_hasSeat, Cond.initialized RX6, Cond.code yX6_hasSeat cX6_hasSeat 2 (some .boolean), Cond.fieldLink RX6 9 "LadleKings$Rules" "seats" "I"] ++ wsX110 ++ wsX80 ++ wsX60)
def wsX11_fill : List Cond := Cond.code yX11_fill cX11_fill 4 (some .int) :: ([Cond.fieldLink RX11 10 "LadleKings" "rules" "LLadleKings$Rules;", Cond.fieldLink RX11 19 "LadleKings" "state" "LLadleKings$State;", Cond.fieldLink RX11 149 "LadleKings$State" "pieces" "[I", Cond.methodLink RX11 145 yX6_hasSeat, Cond.instanceMethod yX6_hasSeat, Cond.selects RX6 yX6_hasSeat yX6_hasSeat, Cond.initialized RX6, Cond.code yX6_hasSeat cX6_hasSeat 2 (some .boolean), Cond.fieldLink RX6 9 "LadleKings$Rules" "seats" "I"] ++ wsX110 ++ wsX80 ++ wsX60)
def wsX11_bowl_r1 : List Cond := [Cond.fieldLink RX11 10 "LadleKings" "rules" "LLadleKings$Rules;", Cond.fieldLink RX11 44 "LadleKings" "kitchen" "LLadleKings$Kitchen;", Cond.methodLink RX11 145 yX6_hasSeat, Cond.instanceMethod yX6_hasSeat, Cond.selects RX6 yX6_hasSeat yX6_hasSeat, Cond.initialized RX6, Cond.code yX6_hasSeat cX6_hasSeat 2 (some .boolean), Cond.fieldLink RX6 9 "LadleKings$Rules" "seats" "I", Cond.methodLink RX11 165 yX6_hasStir, Cond.instanceMethod yX6_hasStir, Cond.selects RX6 yX6_hasStir yX6_hasStir, Cond.code yX6_hasStir cX6_hasStir 2 (some .boolean), Cond.fieldLink RX6 15 "LadleKings$Rules" "stirs" "I", Cond.methodLink RX11 180 yX2_serve, Cond.instanceMethod yX2_serve, Cond.selects RX2 yX2_serve yX2_serve, Cond.initialized RX2, Cond.code yX2_serve cX2_serve 7 none, Cond.fieldLink RX2 21 "LadleKings$Kitchen" "rules" "LLadleKings$Rules;", Cond.fieldLink RX2 29 "LadleKings$Rules" "seats" "I", Cond.fieldLink RX2 25 "LadleKings$Kitchen" "state" "LLadleKings$State;", Cond.fieldLink RX2 9 "LadleKings$Kitchen" "places" "[I", Cond.fieldLink RX2 15 "LadleKings$Kitchen" "holders" "[I", Cond.methodLink RX2 35 yX6_inRing]
def wsX11_bowl_r2 : List Cond := [Cond.instanceMethod yX6_inRing, Cond.selects RX6 yX6_inRing yX6_inRing, Cond.code yX6_inRing cX6_inRing 4 (some .int), Cond.methodLink RX2 39 yX8_isFriend, Cond.instanceMethod yX8_isFriend, Cond.selects RX8 yX8_isFriend yX8_isFriend, Cond.initialized RX8, Cond.code yX8_isFriend cX8_isFriend 3 (some .boolean), Cond.fieldLink RX8 15 "LadleKings$State" "friends" "[I", Cond.methodLink RX11 184 yX2_stirPot, Cond.instanceMethod yX2_stirPot, Cond.selects RX2 yX2_stirPot yX2_stirPot, Cond.code yX2_stirPot cX2_stirPot 2 none, Cond.fieldLink RX2 49 "LadleKings$State" "pieces" "[I", Cond.fieldLink RX2 18 "LadleKings$Kitchen" "stirred" "[I", Cond.methodLink RX2 52 yX6_stirInto, Cond.instanceMethod yX6_stirInto, Cond.selects RX6 yX6_stirInto yX6_stirInto, Cond.code yX6_stirInto cX6_stirInto 5 none, Cond.methodLink RX6 61 yX6_placeAfter, Cond.instanceMethod yX6_placeAfter, Cond.selects RX6 yX6_placeAfter yX6_placeAfter, Cond.code yX6_placeAfter cX6_placeAfter 3 (some .int), Cond.fieldLink RX6 31 "LadleKings$Rules" "after" "[I"]
def wsX11_bowl_r3 : List Cond := [Cond.methodLink RX11 187 yX2_bowlOf, Cond.instanceMethod yX2_bowlOf, Cond.selects RX2 yX2_bowlOf yX2_bowlOf, Cond.code yX2_bowlOf cX2_bowlOf 3 (some .int), Cond.methodLink RX2 56 yX2_placeOf, Cond.instanceMethod yX2_placeOf, Cond.selects RX2 yX2_placeOf yX2_placeOf, Cond.code yX2_placeOf cX2_placeOf 3 (some .int)]
def wsX11_bowl : List Cond := Cond.code yX11_bowl cX11_bowl 4 (some .int) :: ((wsX11_bowl_r1 ++ (wsX11_bowl_r2 ++ wsX11_bowl_r3)) ++ wsX110 ++ wsX60 ++ wsX20 ++ wsX80)
def wsX11_ladle_r1 : List Cond := [Cond.fieldLink RX11 10 "LadleKings" "rules" "LLadleKings$Rules;", Cond.fieldLink RX11 44 "LadleKings" "kitchen" "LLadleKings$Kitchen;", Cond.methodLink RX11 145 yX6_hasSeat, Cond.instanceMethod yX6_hasSeat, Cond.selects RX6 yX6_hasSeat yX6_hasSeat, Cond.initialized RX6, Cond.code yX6_hasSeat cX6_hasSeat 2 (some .boolean), Cond.fieldLink RX6 9 "LadleKings$Rules" "seats" "I", Cond.methodLink RX11 165 yX6_hasStir, Cond.instanceMethod yX6_hasStir, Cond.selects RX6 yX6_hasStir yX6_hasStir, Cond.code yX6_hasStir cX6_hasStir 2 (some .boolean), Cond.fieldLink RX6 15 "LadleKings$Rules" "stirs" "I", Cond.methodLink RX11 180 yX2_serve, Cond.instanceMethod yX2_serve, Cond.selects RX2 yX2_serve yX2_serve, Cond.initialized RX2, Cond.code yX2_serve cX2_serve 7 none, Cond.fieldLink RX2 21 "LadleKings$Kitchen" "rules" "LLadleKings$Rules;", Cond.fieldLink RX2 29 "LadleKings$Rules" "seats" "I", Cond.fieldLink RX2 25 "LadleKings$Kitchen" "state" "LLadleKings$State;", Cond.fieldLink RX2 9 "LadleKings$Kitchen" "places" "[I", Cond.fieldLink RX2 15 "LadleKings$Kitchen" "holders" "[I", Cond.methodLink RX2 35 yX6_inRing]
def wsX11_ladle_r2 : List Cond := [Cond.instanceMethod yX6_inRing, Cond.selects RX6 yX6_inRing yX6_inRing, Cond.code yX6_inRing cX6_inRing 4 (some .int), Cond.methodLink RX2 39 yX8_isFriend, Cond.instanceMethod yX8_isFriend, Cond.selects RX8 yX8_isFriend yX8_isFriend, Cond.initialized RX8, Cond.code yX8_isFriend cX8_isFriend 3 (some .boolean), Cond.fieldLink RX8 15 "LadleKings$State" "friends" "[I", Cond.methodLink RX11 190 yX2_placeOf, Cond.instanceMethod yX2_placeOf, Cond.selects RX2 yX2_placeOf yX2_placeOf, Cond.code yX2_placeOf cX2_placeOf 3 (some .int)]
def wsX11_ladle : List Cond := Cond.code yX11_ladle cX11_ladle 4 (some .int) :: ((wsX11_ladle_r1 ++ wsX11_ladle_r2) ++ wsX110 ++ wsX60 ++ wsX20 ++ wsX80)
def wsX11_next_r1 : List Cond := [Cond.fieldLink RX11 10 "LadleKings" "rules" "LLadleKings$Rules;", Cond.fieldLink RX11 44 "LadleKings" "kitchen" "LLadleKings$Kitchen;", Cond.fieldLink RX11 19 "LadleKings" "state" "LLadleKings$State;", Cond.fieldLink RX11 142 "LadleKings$State" "bone" "I", Cond.methodLink RX11 145 yX6_hasSeat, Cond.instanceMethod yX6_hasSeat, Cond.selects RX6 yX6_hasSeat yX6_hasSeat, Cond.initialized RX6, Cond.code yX6_hasSeat cX6_hasSeat 2 (some .boolean), Cond.fieldLink RX6 9 "LadleKings$Rules" "seats" "I", Cond.methodLink RX11 165 yX6_hasStir, Cond.instanceMethod yX6_hasStir, Cond.selects RX6 yX6_hasStir yX6_hasStir, Cond.code yX6_hasStir cX6_hasStir 2 (some .boolean), Cond.fieldLink RX6 15 "LadleKings$Rules" "stirs" "I", Cond.methodLink RX11 180 yX2_serve, Cond.instanceMethod yX2_serve, Cond.selects RX2 yX2_serve yX2_serve, Cond.initialized RX2, Cond.code yX2_serve cX2_serve 7 none, Cond.fieldLink RX2 21 "LadleKings$Kitchen" "rules" "LLadleKings$Rules;", Cond.fieldLink RX2 29 "LadleKings$Rules" "seats" "I", Cond.fieldLink RX2 25 "LadleKings$Kitchen" "state" "LLadleKings$State;", Cond.fieldLink RX2 9 "LadleKings$Kitchen" "places" "[I"]
def wsX11_next_r2 : List Cond := [Cond.fieldLink RX2 15 "LadleKings$Kitchen" "holders" "[I", Cond.methodLink RX2 35 yX6_inRing, Cond.instanceMethod yX6_inRing, Cond.selects RX6 yX6_inRing yX6_inRing, Cond.code yX6_inRing cX6_inRing 4 (some .int), Cond.methodLink RX2 39 yX8_isFriend, Cond.instanceMethod yX8_isFriend, Cond.selects RX8 yX8_isFriend yX8_isFriend, Cond.initialized RX8, Cond.code yX8_isFriend cX8_isFriend 3 (some .boolean), Cond.fieldLink RX8 15 "LadleKings$State" "friends" "[I", Cond.methodLink RX11 168 yX6_placeAfter, Cond.instanceMethod yX6_placeAfter, Cond.selects RX6 yX6_placeAfter yX6_placeAfter, Cond.code yX6_placeAfter cX6_placeAfter 3 (some .int), Cond.fieldLink RX6 31 "LadleKings$Rules" "after" "[I", Cond.methodLink RX11 193 yX2_holderOf, Cond.instanceMethod yX2_holderOf, Cond.selects RX2 yX2_holderOf yX2_holderOf, Cond.code yX2_holderOf cX2_holderOf 3 (some .int)]
def wsX11_next : List Cond := Cond.code yX11_next cX11_next 3 (some .int) :: ((wsX11_next_r1 ++ wsX11_next_r2) ++ wsX110 ++ wsX80 ++ wsX60 ++ wsX20)
def wsX11_day_r1 : List Cond := [Cond.fieldLink RX11 10 "LadleKings" "rules" "LLadleKings$Rules;", Cond.fieldLink RX11 19 "LadleKings" "state" "LLadleKings$State;", Cond.fieldLink RX11 139 "LadleKings$State" "days" "I", Cond.fieldLink RX11 44 "LadleKings" "kitchen" "LLadleKings$Kitchen;", Cond.fieldLink RX11 136 "LadleKings$State" "king" "I", Cond.methodLink RX11 165 yX6_hasStir, Cond.instanceMethod yX6_hasStir, Cond.selects RX6 yX6_hasStir yX6_hasStir, Cond.initialized RX6, Cond.code yX6_hasStir cX6_hasStir 2 (some .boolean), Cond.fieldLink RX6 15 "LadleKings$Rules" "stirs" "I", Cond.methodLink RX11 196 yX2_passDay, Cond.instanceMethod yX2_passDay, Cond.selects RX2 yX2_passDay yX2_passDay, Cond.initialized RX2, Cond.code yX2_passDay cX2_passDay 4 none, Cond.fieldLink RX2 25 "LadleKings$Kitchen" "state" "LLadleKings$State;", Cond.fieldLink RX2 60 "LadleKings$State" "king" "I", Cond.fieldLink RX2 18 "LadleKings$Kitchen" "stirred" "[I", Cond.fieldLink RX2 49 "LadleKings$State" "pieces" "[I", Cond.fieldLink RX2 21 "LadleKings$Kitchen" "rules" "LLadleKings$Rules;", Cond.fieldLink RX2 29 "LadleKings$Rules" "seats" "I", Cond.methodLink RX2 66 arraycopyName, Cond.native arraycopyName]
def wsX11_day_r2 : List Cond := [Cond.static arraycopyName, Cond.initialized "java/lang/System", Cond.fieldLink RX2 72 "LadleKings$State" "bone" "I", Cond.fieldLink RX2 78 "LadleKings$State" "eaten" "[I", Cond.fieldLink RX2 87 "LadleKings$State" "days" "I", Cond.methodLink RX2 45 yX2_serve, Cond.instanceMethod yX2_serve, Cond.selects RX2 yX2_serve yX2_serve, Cond.code yX2_serve cX2_serve 7 none, Cond.fieldLink RX2 9 "LadleKings$Kitchen" "places" "[I", Cond.fieldLink RX2 15 "LadleKings$Kitchen" "holders" "[I", Cond.methodLink RX2 35 yX6_inRing, Cond.instanceMethod yX6_inRing, Cond.selects RX6 yX6_inRing yX6_inRing, Cond.code yX6_inRing cX6_inRing 4 (some .int), Cond.fieldLink RX6 9 "LadleKings$Rules" "seats" "I", Cond.methodLink RX2 39 yX8_isFriend, Cond.instanceMethod yX8_isFriend, Cond.selects RX8 yX8_isFriend yX8_isFriend, Cond.initialized RX8, Cond.code yX8_isFriend cX8_isFriend 3 (some .boolean), Cond.fieldLink RX8 15 "LadleKings$State" "friends" "[I", Cond.methodLink RX2 63 yX2_stirPot, Cond.instanceMethod yX2_stirPot]
def wsX11_day_r3 : List Cond := [Cond.selects RX2 yX2_stirPot yX2_stirPot, Cond.code yX2_stirPot cX2_stirPot 2 none, Cond.methodLink RX2 52 yX6_stirInto, Cond.instanceMethod yX6_stirInto, Cond.selects RX6 yX6_stirInto yX6_stirInto, Cond.code yX6_stirInto cX6_stirInto 5 none, Cond.methodLink RX6 61 yX6_placeAfter, Cond.instanceMethod yX6_placeAfter, Cond.selects RX6 yX6_placeAfter yX6_placeAfter, Cond.code yX6_placeAfter cX6_placeAfter 3 (some .int), Cond.fieldLink RX6 31 "LadleKings$Rules" "after" "[I", Cond.methodLink RX2 75 yX6_placeAfter, Cond.methodLink RX2 81 yX2_bowlOf, Cond.instanceMethod yX2_bowlOf, Cond.selects RX2 yX2_bowlOf yX2_bowlOf, Cond.code yX2_bowlOf cX2_bowlOf 3 (some .int), Cond.methodLink RX2 56 yX2_placeOf, Cond.instanceMethod yX2_placeOf, Cond.selects RX2 yX2_placeOf yX2_placeOf, Cond.code yX2_placeOf cX2_placeOf 3 (some .int), Cond.methodLink RX2 84 yX2_holderOf, Cond.instanceMethod yX2_holderOf, Cond.selects RX2 yX2_holderOf yX2_holderOf, Cond.code yX2_holderOf cX2_holderOf 3 (some .int)]
def wsX11_day : List Cond := Cond.code yX11_day cX11_day 2 (some .int) :: ((wsX11_day_r1 ++ (wsX11_day_r2 ++ wsX11_day_r3)) ++ wsX110 ++ wsX80 ++ wsX60 ++ wsX20)
def wsX11_hungry : List Cond := Cond.code yX11_hungry cX11_hungry 3 (some .int) :: ([Cond.fieldLink RX11 10 "LadleKings" "rules" "LLadleKings$Rules;", Cond.fieldLink RX11 130 "LadleKings$Rules" "seats" "I", Cond.fieldLink RX11 19 "LadleKings" "state" "LLadleKings$State;", Cond.fieldLink RX11 162 "LadleKings$State" "eaten" "[I", Cond.fieldLink RX11 159 "LadleKings$Rules" "need" "[I", Cond.fieldLink RX11 139 "LadleKings$State" "days" "I"] ++ wsX110 ++ wsX60 ++ wsX80)
def wsX11_isPart : List Cond := Cond.code yX11_isPart cX11_isPart 1 (some .boolean) :: ([])
def wsX11_chance_r1 : List Cond := [Cond.fieldLink RX11 10 "LadleKings" "rules" "LLadleKings$Rules;", Cond.constantLong RX11 202 (-1), Cond.fieldLink RX11 133 "LadleKings$Rules" "stirs" "I", Cond.constantLong RX11 204 (-2), Cond.fieldLink RX11 53 "LadleKings" "luck" "LLadleKings$Luck;", Cond.methodLink RX11 145 yX6_hasSeat, Cond.instanceMethod yX6_hasSeat, Cond.selects RX6 yX6_hasSeat yX6_hasSeat, Cond.initialized RX6, Cond.code yX6_hasSeat cX6_hasSeat 2 (some .boolean), Cond.fieldLink RX6 9 "LadleKings$Rules" "seats" "I", Cond.methodLink RX11 199 yX11_isPart, Cond.static yX11_isPart, Cond.initialized RX11, Cond.code yX11_isPart cX11_isPart 1 (some .boolean), Cond.methodLink RX11 206 yX3_rowsToCrown, Cond.instanceMethod yX3_rowsToCrown, Cond.selects RX3 yX3_rowsToCrown yX3_rowsToCrown, Cond.initialized RX3, Cond.code yX3_rowsToCrown cX3_rowsToCrown 4 (some .long), Cond.methodLink RX3 25 yX3_begin, Cond.instanceMethod yX3_begin, Cond.selects RX3 yX3_begin yX3_begin, Cond.code yX3_begin cX3_begin 1 none]
def wsX11_chance_r2 : List Cond := [Cond.fieldLink RX3 21 "LadleKings$Luck" "kitchen" "LLadleKings$Kitchen;", Cond.fieldLink RX3 11 "LadleKings$Luck" "rows" "[J", Cond.fieldLink RX3 36 "LadleKings$Kitchen" "state" "LLadleKings$State;", Cond.fieldLink RX3 42 "LadleKings$State" "king" "I", Cond.fieldLink RX3 57 "LadleKings$State" "bone" "I", Cond.methodLink RX3 48 yX2_serveAllKings, Cond.instanceMethod yX2_serveAllKings, Cond.selects RX2 yX2_serveAllKings yX2_serveAllKings, Cond.initialized RX2, Cond.code yX2_serveAllKings cX2_serveAllKings 2 none, Cond.fieldLink RX2 21 "LadleKings$Kitchen" "rules" "LLadleKings$Rules;", Cond.fieldLink RX2 29 "LadleKings$Rules" "seats" "I", Cond.methodLink RX2 45 yX2_serve, Cond.instanceMethod yX2_serve, Cond.selects RX2 yX2_serve yX2_serve, Cond.code yX2_serve cX2_serve 7 none, Cond.fieldLink RX2 25 "LadleKings$Kitchen" "state" "LLadleKings$State;", Cond.fieldLink RX2 9 "LadleKings$Kitchen" "places" "[I", Cond.fieldLink RX2 15 "LadleKings$Kitchen" "holders" "[I", Cond.methodLink RX2 35 yX6_inRing, Cond.instanceMethod yX6_inRing, Cond.selects RX6 yX6_inRing yX6_inRing, Cond.code yX6_inRing cX6_inRing 4 (some .int), Cond.methodLink RX2 39 yX8_isFriend]
def wsX11_chance_r3 : List Cond := [Cond.instanceMethod yX8_isFriend, Cond.selects RX8 yX8_isFriend yX8_isFriend, Cond.initialized RX8, Cond.code yX8_isFriend cX8_isFriend 3 (some .boolean), Cond.fieldLink RX8 15 "LadleKings$State" "friends" "[I", Cond.methodLink RX3 51 yJ7_fill_d0a16, Cond.static yJ7_fill_d0a16, Cond.initialized RJ7, Cond.code yJ7_fill_d0a16 cJ7_fill_d0a16 5 none, Cond.methodLink RX3 28 yX3_goOn, Cond.instanceMethod yX3_goOn, Cond.selects RX3 yX3_goOn yX3_goOn, Cond.code yX3_goOn cX3_goOn 4 none, Cond.fieldLink RX3 15 "LadleKings$Luck" "later" "[J", Cond.fieldLink RX3 60 "LadleKings$Kitchen" "rules" "LLadleKings$Rules;", Cond.fieldLink RX3 64 "LadleKings$Rules" "seats" "I", Cond.methodLink RX3 73 arraycopyName, Cond.native arraycopyName, Cond.static arraycopyName, Cond.initialized "java/lang/System", Cond.methodLink RX3 69 yX3_goOnFrom, Cond.instanceMethod yX3_goOnFrom, Cond.selects RX3 yX3_goOnFrom yX3_goOnFrom, Cond.code yX3_goOnFrom cX3_goOnFrom 7 none]
def wsX11_chance_r4 : List Cond := [Cond.fieldLink RX3 79 "LadleKings$Rules" "stirs" "I", Cond.methodLink RX3 82 yX6_placeAfter, Cond.instanceMethod yX6_placeAfter, Cond.selects RX6 yX6_placeAfter yX6_placeAfter, Cond.code yX6_placeAfter cX6_placeAfter 3 (some .int), Cond.fieldLink RX6 31 "LadleKings$Rules" "after" "[I", Cond.methodLink RX3 86 yX2_holderOf, Cond.instanceMethod yX2_holderOf, Cond.selects RX2 yX2_holderOf yX2_holderOf, Cond.code yX2_holderOf cX2_holderOf 3 (some .int), Cond.methodLink RX3 32 yX3_rowsWithKing, Cond.instanceMethod yX3_rowsWithKing, Cond.selects RX3 yX3_rowsWithKing yX3_rowsWithKing, Cond.code yX3_rowsWithKing cX3_rowsWithKing 5 (some .long), Cond.methodLink RX11 210 yX3_power, Cond.static yX3_power, Cond.code yX3_power cX3_power 5 (some .long), Cond.methodLink RX11 213 yX3_part, Cond.static yX3_part, Cond.code yX3_part cX3_part 7 (some .long), Cond.methodLink RX3 89 yX3_greatestDivisor, Cond.static yX3_greatestDivisor, Cond.code yX3_greatestDivisor cX3_greatestDivisor 11 (some .long)]
def wsX11_chance : List Cond := Cond.code yX11_chance cX11_chance 4 (some .long) :: ((wsX11_chance_r1 ++ (wsX11_chance_r2 ++ (wsX11_chance_r3 ++ wsX11_chance_r4))) ++ wsX110 ++ wsX60 ++ wsX30 ++ wsX20 ++ wsX80)
def wsX11_lasts_r1 : List Cond := [Cond.constantLong RX11 202 (-1), Cond.fieldLink RX11 10 "LadleKings" "rules" "LLadleKings$Rules;", Cond.fieldLink RX11 133 "LadleKings$Rules" "stirs" "I", Cond.constantLong RX11 204 (-2), Cond.fieldLink RX11 53 "LadleKings" "luck" "LLadleKings$Luck;", Cond.methodLink RX11 199 yX11_isPart, Cond.static yX11_isPart, Cond.initialized RX11, Cond.code yX11_isPart cX11_isPart 1 (some .boolean), Cond.methodLink RX11 217 yX3_rowsOfReign, Cond.instanceMethod yX3_rowsOfReign, Cond.selects RX3 yX3_rowsOfReign yX3_rowsOfReign, Cond.initialized RX3, Cond.code yX3_rowsOfReign cX3_rowsOfReign 3 (some .long), Cond.fieldLink RX3 21 "LadleKings$Luck" "kitchen" "LLadleKings$Kitchen;", Cond.fieldLink RX3 36 "LadleKings$Kitchen" "state" "LLadleKings$State;", Cond.fieldLink RX3 42 "LadleKings$State" "king" "I", Cond.methodLink RX3 25 yX3_begin, Cond.instanceMethod yX3_begin, Cond.selects RX3 yX3_begin yX3_begin, Cond.code yX3_begin cX3_begin 1 none, Cond.fieldLink RX3 11 "LadleKings$Luck" "rows" "[J", Cond.fieldLink RX3 57 "LadleKings$State" "bone" "I", Cond.methodLink RX3 48 yX2_serveAllKings]
def wsX11_lasts_r2 : List Cond := [Cond.instanceMethod yX2_serveAllKings, Cond.selects RX2 yX2_serveAllKings yX2_serveAllKings, Cond.initialized RX2, Cond.code yX2_serveAllKings cX2_serveAllKings 2 none, Cond.fieldLink RX2 21 "LadleKings$Kitchen" "rules" "LLadleKings$Rules;", Cond.fieldLink RX2 29 "LadleKings$Rules" "seats" "I", Cond.methodLink RX2 45 yX2_serve, Cond.instanceMethod yX2_serve, Cond.selects RX2 yX2_serve yX2_serve, Cond.code yX2_serve cX2_serve 7 none, Cond.fieldLink RX2 25 "LadleKings$Kitchen" "state" "LLadleKings$State;", Cond.fieldLink RX2 9 "LadleKings$Kitchen" "places" "[I", Cond.fieldLink RX2 15 "LadleKings$Kitchen" "holders" "[I", Cond.methodLink RX2 35 yX6_inRing, Cond.instanceMethod yX6_inRing, Cond.selects RX6 yX6_inRing yX6_inRing, Cond.initialized RX6, Cond.code yX6_inRing cX6_inRing 4 (some .int), Cond.fieldLink RX6 9 "LadleKings$Rules" "seats" "I", Cond.methodLink RX2 39 yX8_isFriend, Cond.instanceMethod yX8_isFriend, Cond.selects RX8 yX8_isFriend yX8_isFriend, Cond.initialized RX8, Cond.code yX8_isFriend cX8_isFriend 3 (some .boolean)]
def wsX11_lasts_r3 : List Cond := [Cond.fieldLink RX8 15 "LadleKings$State" "friends" "[I", Cond.methodLink RX3 51 yJ7_fill_d0a16, Cond.static yJ7_fill_d0a16, Cond.initialized RJ7, Cond.code yJ7_fill_d0a16 cJ7_fill_d0a16 5 none, Cond.methodLink RX3 28 yX3_goOn, Cond.instanceMethod yX3_goOn, Cond.selects RX3 yX3_goOn yX3_goOn, Cond.code yX3_goOn cX3_goOn 4 none, Cond.fieldLink RX3 15 "LadleKings$Luck" "later" "[J", Cond.fieldLink RX3 60 "LadleKings$Kitchen" "rules" "LLadleKings$Rules;", Cond.fieldLink RX3 64 "LadleKings$Rules" "seats" "I", Cond.methodLink RX3 73 arraycopyName, Cond.native arraycopyName, Cond.static arraycopyName, Cond.initialized "java/lang/System", Cond.methodLink RX3 69 yX3_goOnFrom, Cond.instanceMethod yX3_goOnFrom, Cond.selects RX3 yX3_goOnFrom yX3_goOnFrom, Cond.code yX3_goOnFrom cX3_goOnFrom 7 none, Cond.fieldLink RX3 79 "LadleKings$Rules" "stirs" "I", Cond.methodLink RX3 82 yX6_placeAfter, Cond.instanceMethod yX6_placeAfter, Cond.selects RX6 yX6_placeAfter yX6_placeAfter]
def wsX11_lasts_r4 : List Cond := [Cond.code yX6_placeAfter cX6_placeAfter 3 (some .int), Cond.fieldLink RX6 31 "LadleKings$Rules" "after" "[I", Cond.methodLink RX3 86 yX2_holderOf, Cond.instanceMethod yX2_holderOf, Cond.selects RX2 yX2_holderOf yX2_holderOf, Cond.code yX2_holderOf cX2_holderOf 3 (some .int), Cond.methodLink RX3 32 yX3_rowsWithKing, Cond.instanceMethod yX3_rowsWithKing, Cond.selects RX3 yX3_rowsWithKing yX3_rowsWithKing, Cond.code yX3_rowsWithKing cX3_rowsWithKing 5 (some .long), Cond.methodLink RX11 210 yX3_power, Cond.static yX3_power, Cond.code yX3_power cX3_power 5 (some .long), Cond.methodLink RX11 213 yX3_part, Cond.static yX3_part, Cond.code yX3_part cX3_part 7 (some .long), Cond.methodLink RX3 89 yX3_greatestDivisor, Cond.static yX3_greatestDivisor, Cond.code yX3_greatestDivisor cX3_greatestDivisor 11 (some .long)]
def wsX11_lasts : List Cond := Cond.code yX11_lasts cX11_lasts 3 (some .long) :: ((wsX11_lasts_r1 ++ (wsX11_lasts_r2 ++ (wsX11_lasts_r3 ++ wsX11_lasts_r4))) ++ wsX110 ++ wsX60 ++ wsX30 ++ wsX20 ++ wsX80)
def wsX11_isRowQuestion : List Cond := Cond.code yX11_isRowQuestion cX11_isRowQuestion 2 (some .boolean) :: ([])
def wsX11_ofRow : List Cond := Cond.code yX11_ofRow cX11_ofRow 3 (some .int) :: ([])
def wsX11_reign_r1 : List Cond := [Cond.fieldLink RX11 10 "LadleKings" "rules" "LLadleKings$Rules;", Cond.fieldLink RX11 133 "LadleKings$Rules" "stirs" "I", Cond.fieldLink RX11 60 "LadleKings" "plans" "LLadleKings$Plans;", Cond.fieldLink RX11 228 "LadleKings$Plans" "row" "[I", Cond.methodLink RX11 221 yX11_isRowQuestion, Cond.static yX11_isRowQuestion, Cond.initialized RX11, Cond.code yX11_isRowQuestion cX11_isRowQuestion 2 (some .boolean), Cond.methodLink RX11 224 yX5_planReign, Cond.instanceMethod yX5_planReign, Cond.selects RX5 yX5_planReign yX5_planReign, Cond.initialized RX5, Cond.code yX5_planReign cX5_planReign 4 (some .int), Cond.fieldLink RX5 19 "LadleKings$Plans" "kitchen" "LLadleKings$Kitchen;", Cond.fieldLink RX5 9 "LadleKings$Plans" "good" "[J", Cond.methodLink RX5 23 yX2_serveAllKings, Cond.instanceMethod yX2_serveAllKings, Cond.selects RX2 yX2_serveAllKings yX2_serveAllKings, Cond.initialized RX2, Cond.code yX2_serveAllKings cX2_serveAllKings 2 none, Cond.fieldLink RX2 21 "LadleKings$Kitchen" "rules" "LLadleKings$Rules;", Cond.fieldLink RX2 29 "LadleKings$Rules" "seats" "I", Cond.methodLink RX2 45 yX2_serve, Cond.instanceMethod yX2_serve]
def wsX11_reign_r2 : List Cond := [Cond.selects RX2 yX2_serve yX2_serve, Cond.code yX2_serve cX2_serve 7 none, Cond.fieldLink RX2 25 "LadleKings$Kitchen" "state" "LLadleKings$State;", Cond.fieldLink RX2 9 "LadleKings$Kitchen" "places" "[I", Cond.fieldLink RX2 15 "LadleKings$Kitchen" "holders" "[I", Cond.methodLink RX2 35 yX6_inRing, Cond.instanceMethod yX6_inRing, Cond.selects RX6 yX6_inRing yX6_inRing, Cond.initialized RX6, Cond.code yX6_inRing cX6_inRing 4 (some .int), Cond.fieldLink RX6 9 "LadleKings$Rules" "seats" "I", Cond.methodLink RX2 39 yX8_isFriend, Cond.instanceMethod yX8_isFriend, Cond.selects RX8 yX8_isFriend yX8_isFriend, Cond.initialized RX8, Cond.code yX8_isFriend cX8_isFriend 3 (some .boolean), Cond.fieldLink RX8 15 "LadleKings$State" "friends" "[I", Cond.methodLink RX5 28 yX5_allPairs, Cond.instanceMethod yX5_allPairs, Cond.selects RX5 yX5_allPairs yX5_allPairs, Cond.code yX5_allPairs cX5_allPairs 4 (some .long), Cond.fieldLink RX5 48 "LadleKings$Kitchen" "rules" "LLadleKings$Rules;", Cond.fieldLink RX5 52 "LadleKings$Rules" "seats" "I", Cond.methodLink RX5 44 yX5_pairsOfKing]
def wsX11_reign_r3 : List Cond := [Cond.instanceMethod yX5_pairsOfKing, Cond.selects RX5 yX5_pairsOfKing yX5_pairsOfKing, Cond.code yX5_pairsOfKing cX5_pairsOfKing 5 (some .long), Cond.methodLink RX5 58 yX5_bitOf, Cond.static yX5_bitOf, Cond.code yX5_bitOf cX5_bitOf 2 (some .long), Cond.methodLink RX5 32 yX5_pairsBefore, Cond.instanceMethod yX5_pairsBefore, Cond.selects RX5 yX5_pairsBefore yX5_pairsBefore, Cond.code yX5_pairsBefore cX5_pairsBefore 8 (some .long), Cond.methodLink RX5 74 yX5_firstStirInto, Cond.instanceMethod yX5_firstStirInto, Cond.selects RX5 yX5_firstStirInto yX5_firstStirInto, Cond.code yX5_firstStirInto cX5_firstStirInto 9 (some .int), Cond.fieldLink RX5 78 "LadleKings$Rules" "stirs" "I", Cond.methodLink RX5 81 yX6_placeAfter, Cond.instanceMethod yX6_placeAfter, Cond.selects RX6 yX6_placeAfter yX6_placeAfter, Cond.code yX6_placeAfter cX6_placeAfter 3 (some .int), Cond.fieldLink RX6 31 "LadleKings$Rules" "after" "[I", Cond.methodLink RX5 85 yX2_holderOf, Cond.instanceMethod yX2_holderOf, Cond.selects RX2 yX2_holderOf yX2_holderOf, Cond.code yX2_holderOf cX2_holderOf 3 (some .int)]
def wsX11_reign_r4 : List Cond := [Cond.methodLink RX5 36 yX5_isGoodNow, Cond.instanceMethod yX5_isGoodNow, Cond.selects RX5 yX5_isGoodNow yX5_isGoodNow, Cond.code yX5_isGoodNow cX5_isGoodNow 2 (some .boolean), Cond.fieldLink RX5 62 "LadleKings$Kitchen" "state" "LLadleKings$State;", Cond.fieldLink RX5 66 "LadleKings$State" "king" "I", Cond.fieldLink RX5 71 "LadleKings$State" "bone" "I", Cond.methodLink RX5 40 yX5_tellRow, Cond.instanceMethod yX5_tellRow, Cond.selects RX5 yX5_tellRow yX5_tellRow, Cond.code yX5_tellRow cX5_tellRow 7 none, Cond.fieldLink RX5 15 "LadleKings$Plans" "row" "[I", Cond.methodLink RX5 88 yX6_hasStir, Cond.instanceMethod yX6_hasStir, Cond.selects RX6 yX6_hasStir yX6_hasStir, Cond.code yX6_hasStir cX6_hasStir 2 (some .boolean), Cond.fieldLink RX6 15 "LadleKings$Rules" "stirs" "I", Cond.methodLink RX11 231 yX11_ofRow, Cond.static yX11_ofRow, Cond.code yX11_ofRow cX11_ofRow 3 (some .int)]
def wsX11_reign : List Cond := Cond.code yX11_reign cX11_reign 4 (some .int) :: ((wsX11_reign_r1 ++ (wsX11_reign_r2 ++ (wsX11_reign_r3 ++ wsX11_reign_r4))) ++ wsX110 ++ wsX60 ++ wsX50 ++ wsX20 ++ wsX80)
def wsX11_raise_r1 : List Cond := [Cond.fieldLink RX11 10 "LadleKings" "rules" "LLadleKings$Rules;", Cond.fieldLink RX11 133 "LadleKings$Rules" "stirs" "I", Cond.fieldLink RX11 60 "LadleKings" "plans" "LLadleKings$Plans;", Cond.fieldLink RX11 228 "LadleKings$Plans" "row" "[I", Cond.methodLink RX11 145 yX6_hasSeat, Cond.instanceMethod yX6_hasSeat, Cond.selects RX6 yX6_hasSeat yX6_hasSeat, Cond.initialized RX6, Cond.code yX6_hasSeat cX6_hasSeat 2 (some .boolean), Cond.fieldLink RX6 9 "LadleKings$Rules" "seats" "I", Cond.methodLink RX11 221 yX11_isRowQuestion, Cond.static yX11_isRowQuestion, Cond.initialized RX11, Cond.code yX11_isRowQuestion cX11_isRowQuestion 2 (some .boolean), Cond.methodLink RX11 235 yX5_planRaise, Cond.instanceMethod yX5_planRaise, Cond.selects RX5 yX5_planRaise yX5_planRaise, Cond.initialized RX5, Cond.code yX5_planRaise cX5_planRaise 3 (some .int), Cond.fieldLink RX5 19 "LadleKings$Plans" "kitchen" "LLadleKings$Kitchen;", Cond.fieldLink RX5 9 "LadleKings$Plans" "good" "[J", Cond.methodLink RX5 23 yX2_serveAllKings, Cond.instanceMethod yX2_serveAllKings, Cond.selects RX2 yX2_serveAllKings yX2_serveAllKings]
def wsX11_raise_r2 : List Cond := [Cond.initialized RX2, Cond.code yX2_serveAllKings cX2_serveAllKings 2 none, Cond.fieldLink RX2 21 "LadleKings$Kitchen" "rules" "LLadleKings$Rules;", Cond.fieldLink RX2 29 "LadleKings$Rules" "seats" "I", Cond.methodLink RX2 45 yX2_serve, Cond.instanceMethod yX2_serve, Cond.selects RX2 yX2_serve yX2_serve, Cond.code yX2_serve cX2_serve 7 none, Cond.fieldLink RX2 25 "LadleKings$Kitchen" "state" "LLadleKings$State;", Cond.fieldLink RX2 9 "LadleKings$Kitchen" "places" "[I", Cond.fieldLink RX2 15 "LadleKings$Kitchen" "holders" "[I", Cond.methodLink RX2 35 yX6_inRing, Cond.instanceMethod yX6_inRing, Cond.selects RX6 yX6_inRing yX6_inRing, Cond.code yX6_inRing cX6_inRing 4 (some .int), Cond.methodLink RX2 39 yX8_isFriend, Cond.instanceMethod yX8_isFriend, Cond.selects RX8 yX8_isFriend yX8_isFriend, Cond.initialized RX8, Cond.code yX8_isFriend cX8_isFriend 3 (some .boolean), Cond.fieldLink RX8 15 "LadleKings$State" "friends" "[I", Cond.methodLink RX5 44 yX5_pairsOfKing, Cond.instanceMethod yX5_pairsOfKing, Cond.selects RX5 yX5_pairsOfKing yX5_pairsOfKing]
def wsX11_raise_r3 : List Cond := [Cond.code yX5_pairsOfKing cX5_pairsOfKing 5 (some .long), Cond.fieldLink RX5 48 "LadleKings$Kitchen" "rules" "LLadleKings$Rules;", Cond.fieldLink RX5 52 "LadleKings$Rules" "seats" "I", Cond.methodLink RX5 58 yX5_bitOf, Cond.static yX5_bitOf, Cond.code yX5_bitOf cX5_bitOf 2 (some .long), Cond.methodLink RX5 32 yX5_pairsBefore, Cond.instanceMethod yX5_pairsBefore, Cond.selects RX5 yX5_pairsBefore yX5_pairsBefore, Cond.code yX5_pairsBefore cX5_pairsBefore 8 (some .long), Cond.methodLink RX5 74 yX5_firstStirInto, Cond.instanceMethod yX5_firstStirInto, Cond.selects RX5 yX5_firstStirInto yX5_firstStirInto, Cond.code yX5_firstStirInto cX5_firstStirInto 9 (some .int), Cond.fieldLink RX5 78 "LadleKings$Rules" "stirs" "I", Cond.methodLink RX5 81 yX6_placeAfter, Cond.instanceMethod yX6_placeAfter, Cond.selects RX6 yX6_placeAfter yX6_placeAfter, Cond.code yX6_placeAfter cX6_placeAfter 3 (some .int), Cond.fieldLink RX6 31 "LadleKings$Rules" "after" "[I", Cond.methodLink RX5 85 yX2_holderOf, Cond.instanceMethod yX2_holderOf, Cond.selects RX2 yX2_holderOf yX2_holderOf, Cond.code yX2_holderOf cX2_holderOf 3 (some .int)]
def wsX11_raise_r4 : List Cond := [Cond.methodLink RX5 36 yX5_isGoodNow, Cond.instanceMethod yX5_isGoodNow, Cond.selects RX5 yX5_isGoodNow yX5_isGoodNow, Cond.code yX5_isGoodNow cX5_isGoodNow 2 (some .boolean), Cond.fieldLink RX5 62 "LadleKings$Kitchen" "state" "LLadleKings$State;", Cond.fieldLink RX5 66 "LadleKings$State" "king" "I", Cond.fieldLink RX5 71 "LadleKings$State" "bone" "I", Cond.methodLink RX5 40 yX5_tellRow, Cond.instanceMethod yX5_tellRow, Cond.selects RX5 yX5_tellRow yX5_tellRow, Cond.code yX5_tellRow cX5_tellRow 7 none, Cond.fieldLink RX5 15 "LadleKings$Plans" "row" "[I", Cond.methodLink RX5 88 yX6_hasStir, Cond.instanceMethod yX6_hasStir, Cond.selects RX6 yX6_hasStir yX6_hasStir, Cond.code yX6_hasStir cX6_hasStir 2 (some .boolean), Cond.fieldLink RX6 15 "LadleKings$Rules" "stirs" "I", Cond.methodLink RX11 231 yX11_ofRow, Cond.static yX11_ofRow, Cond.code yX11_ofRow cX11_ofRow 3 (some .int)]
def wsX11_raise : List Cond := Cond.code yX11_raise cX11_raise 4 (some .int) :: ((wsX11_raise_r1 ++ (wsX11_raise_r2 ++ (wsX11_raise_r3 ++ wsX11_raise_r4))) ++ wsX110 ++ wsX60 ++ wsX50 ++ wsX20 ++ wsX80)
def wsX11_coup_r1 : List Cond := [Cond.fieldLink RX11 10 "LadleKings" "rules" "LLadleKings$Rules;", Cond.fieldLink RX11 44 "LadleKings" "kitchen" "LLadleKings$Kitchen;", Cond.fieldLink RX11 67 "LadleKings" "coups" "LLadleKings$Coups;", Cond.methodLink RX11 145 yX6_hasSeat, Cond.instanceMethod yX6_hasSeat, Cond.selects RX6 yX6_hasSeat yX6_hasSeat, Cond.initialized RX6, Cond.code yX6_hasSeat cX6_hasSeat 2 (some .boolean), Cond.fieldLink RX6 9 "LadleKings$Rules" "seats" "I", Cond.methodLink RX11 165 yX6_hasStir, Cond.instanceMethod yX6_hasStir, Cond.selects RX6 yX6_hasStir yX6_hasStir, Cond.code yX6_hasStir cX6_hasStir 2 (some .boolean), Cond.fieldLink RX6 15 "LadleKings$Rules" "stirs" "I", Cond.methodLink RX11 199 yX11_isPart, Cond.static yX11_isPart, Cond.initialized RX11, Cond.code yX11_isPart cX11_isPart 1 (some .boolean), Cond.methodLink RX11 238 yX2_serveAllKings, Cond.instanceMethod yX2_serveAllKings, Cond.selects RX2 yX2_serveAllKings yX2_serveAllKings, Cond.initialized RX2, Cond.code yX2_serveAllKings cX2_serveAllKings 2 none, Cond.fieldLink RX2 21 "LadleKings$Kitchen" "rules" "LLadleKings$Rules;"]
def wsX11_coup_r2 : List Cond := [Cond.fieldLink RX2 29 "LadleKings$Rules" "seats" "I", Cond.methodLink RX2 45 yX2_serve, Cond.instanceMethod yX2_serve, Cond.selects RX2 yX2_serve yX2_serve, Cond.code yX2_serve cX2_serve 7 none, Cond.fieldLink RX2 25 "LadleKings$Kitchen" "state" "LLadleKings$State;", Cond.fieldLink RX2 9 "LadleKings$Kitchen" "places" "[I", Cond.fieldLink RX2 15 "LadleKings$Kitchen" "holders" "[I", Cond.methodLink RX2 35 yX6_inRing, Cond.instanceMethod yX6_inRing, Cond.selects RX6 yX6_inRing yX6_inRing, Cond.code yX6_inRing cX6_inRing 4 (some .int), Cond.methodLink RX2 39 yX8_isFriend, Cond.instanceMethod yX8_isFriend, Cond.selects RX8 yX8_isFriend yX8_isFriend, Cond.initialized RX8, Cond.code yX8_isFriend cX8_isFriend 3 (some .boolean), Cond.fieldLink RX8 15 "LadleKings$State" "friends" "[I", Cond.methodLink RX11 184 yX2_stirPot, Cond.instanceMethod yX2_stirPot, Cond.selects RX2 yX2_stirPot yX2_stirPot, Cond.code yX2_stirPot cX2_stirPot 2 none, Cond.fieldLink RX2 49 "LadleKings$State" "pieces" "[I", Cond.fieldLink RX2 18 "LadleKings$Kitchen" "stirred" "[I"]
def wsX11_coup_r3 : List Cond := [Cond.methodLink RX2 52 yX6_stirInto, Cond.instanceMethod yX6_stirInto, Cond.selects RX6 yX6_stirInto yX6_stirInto, Cond.code yX6_stirInto cX6_stirInto 5 none, Cond.methodLink RX6 61 yX6_placeAfter, Cond.instanceMethod yX6_placeAfter, Cond.selects RX6 yX6_placeAfter yX6_placeAfter, Cond.code yX6_placeAfter cX6_placeAfter 3 (some .int), Cond.fieldLink RX6 31 "LadleKings$Rules" "after" "[I", Cond.methodLink RX11 241 yX0_leastLeader, Cond.instanceMethod yX0_leastLeader, Cond.selects RX0 yX0_leastLeader yX0_leastLeader, Cond.initialized RX0, Cond.code yX0_leastLeader cX0_leastLeader 3 (some .int), Cond.fieldLink RX0 9 "LadleKings$Coups" "kitchen" "LLadleKings$Kitchen;", Cond.fieldLink RX0 15 "LadleKings$Kitchen" "rules" "LLadleKings$Rules;", Cond.fieldLink RX0 21 "LadleKings$Rules" "seats" "I", Cond.methodLink RX0 27 yX0_canLead, Cond.instanceMethod yX0_canLead, Cond.selects RX0 yX0_canLead yX0_canLead, Cond.code yX0_canLead cX0_canLead 4 (some .boolean), Cond.methodLink RX0 31 yX0_whoRise, Cond.instanceMethod yX0_whoRise, Cond.selects RX0 yX0_whoRise yX0_whoRise]
def wsX11_coup_r4 : List Cond := [Cond.code yX0_whoRise cX0_whoRise 5 (some .int), Cond.methodLink RX0 39 yX2_bowlOf, Cond.instanceMethod yX2_bowlOf, Cond.selects RX2 yX2_bowlOf yX2_bowlOf, Cond.code yX2_bowlOf cX2_bowlOf 3 (some .int), Cond.methodLink RX2 56 yX2_placeOf, Cond.instanceMethod yX2_placeOf, Cond.selects RX2 yX2_placeOf yX2_placeOf, Cond.code yX2_placeOf cX2_placeOf 3 (some .int), Cond.methodLink RX0 35 yX0_isEnough, Cond.instanceMethod yX0_isEnough, Cond.selects RX0 yX0_isEnough yX0_isEnough, Cond.code yX0_isEnough cX0_isEnough 5 (some .boolean), Cond.fieldLink RX0 42 "LadleKings$Kitchen" "state" "LLadleKings$State;", Cond.fieldLink RX0 46 "LadleKings$State" "spoons" "[I", Cond.methodLink RX11 244 yX0_leastBand, Cond.instanceMethod yX0_leastBand, Cond.selects RX0 yX0_leastBand yX0_leastBand, Cond.code yX0_leastBand cX0_leastBand 6 (some .int)]
def wsX11_coup : List Cond := Cond.code yX11_coup cX11_coup 5 (some .int) :: ((wsX11_coup_r1 ++ (wsX11_coup_r2 ++ (wsX11_coup_r3 ++ wsX11_coup_r4))) ++ wsX110 ++ wsX60 ++ wsX20 ++ wsX80 ++ wsX00)
def wsX11_firm_r1 : List Cond := [Cond.fieldLink RX11 10 "LadleKings" "rules" "LLadleKings$Rules;", Cond.fieldLink RX11 44 "LadleKings" "kitchen" "LLadleKings$Kitchen;", Cond.fieldLink RX11 130 "LadleKings$Rules" "seats" "I", Cond.fieldLink RX11 67 "LadleKings" "coups" "LLadleKings$Coups;", Cond.methodLink RX11 165 yX6_hasStir, Cond.instanceMethod yX6_hasStir, Cond.selects RX6 yX6_hasStir yX6_hasStir, Cond.initialized RX6, Cond.code yX6_hasStir cX6_hasStir 2 (some .boolean), Cond.fieldLink RX6 15 "LadleKings$Rules" "stirs" "I", Cond.methodLink RX11 238 yX2_serveAllKings, Cond.instanceMethod yX2_serveAllKings, Cond.selects RX2 yX2_serveAllKings yX2_serveAllKings, Cond.initialized RX2, Cond.code yX2_serveAllKings cX2_serveAllKings 2 none, Cond.fieldLink RX2 21 "LadleKings$Kitchen" "rules" "LLadleKings$Rules;", Cond.fieldLink RX2 29 "LadleKings$Rules" "seats" "I", Cond.methodLink RX2 45 yX2_serve, Cond.instanceMethod yX2_serve, Cond.selects RX2 yX2_serve yX2_serve, Cond.code yX2_serve cX2_serve 7 none, Cond.fieldLink RX2 25 "LadleKings$Kitchen" "state" "LLadleKings$State;", Cond.fieldLink RX2 9 "LadleKings$Kitchen" "places" "[I", Cond.fieldLink RX2 15 "LadleKings$Kitchen" "holders" "[I"]
def wsX11_firm_r2 : List Cond := [Cond.methodLink RX2 35 yX6_inRing, Cond.instanceMethod yX6_inRing, Cond.selects RX6 yX6_inRing yX6_inRing, Cond.code yX6_inRing cX6_inRing 4 (some .int), Cond.fieldLink RX6 9 "LadleKings$Rules" "seats" "I", Cond.methodLink RX2 39 yX8_isFriend, Cond.instanceMethod yX8_isFriend, Cond.selects RX8 yX8_isFriend yX8_isFriend, Cond.initialized RX8, Cond.code yX8_isFriend cX8_isFriend 3 (some .boolean), Cond.fieldLink RX8 15 "LadleKings$State" "friends" "[I", Cond.methodLink RX11 184 yX2_stirPot, Cond.instanceMethod yX2_stirPot, Cond.selects RX2 yX2_stirPot yX2_stirPot, Cond.code yX2_stirPot cX2_stirPot 2 none, Cond.fieldLink RX2 49 "LadleKings$State" "pieces" "[I", Cond.fieldLink RX2 18 "LadleKings$Kitchen" "stirred" "[I", Cond.methodLink RX2 52 yX6_stirInto, Cond.instanceMethod yX6_stirInto, Cond.selects RX6 yX6_stirInto yX6_stirInto, Cond.code yX6_stirInto cX6_stirInto 5 none, Cond.methodLink RX6 61 yX6_placeAfter, Cond.instanceMethod yX6_placeAfter, Cond.selects RX6 yX6_placeAfter yX6_placeAfter]
def wsX11_firm_r3 : List Cond := [Cond.code yX6_placeAfter cX6_placeAfter 3 (some .int), Cond.fieldLink RX6 31 "LadleKings$Rules" "after" "[I", Cond.methodLink RX11 241 yX0_leastLeader, Cond.instanceMethod yX0_leastLeader, Cond.selects RX0 yX0_leastLeader yX0_leastLeader, Cond.initialized RX0, Cond.code yX0_leastLeader cX0_leastLeader 3 (some .int), Cond.fieldLink RX0 9 "LadleKings$Coups" "kitchen" "LLadleKings$Kitchen;", Cond.fieldLink RX0 15 "LadleKings$Kitchen" "rules" "LLadleKings$Rules;", Cond.fieldLink RX0 21 "LadleKings$Rules" "seats" "I", Cond.methodLink RX0 27 yX0_canLead, Cond.instanceMethod yX0_canLead, Cond.selects RX0 yX0_canLead yX0_canLead, Cond.code yX0_canLead cX0_canLead 4 (some .boolean), Cond.methodLink RX0 31 yX0_whoRise, Cond.instanceMethod yX0_whoRise, Cond.selects RX0 yX0_whoRise yX0_whoRise, Cond.code yX0_whoRise cX0_whoRise 5 (some .int), Cond.methodLink RX0 39 yX2_bowlOf, Cond.instanceMethod yX2_bowlOf, Cond.selects RX2 yX2_bowlOf yX2_bowlOf, Cond.code yX2_bowlOf cX2_bowlOf 3 (some .int), Cond.methodLink RX2 56 yX2_placeOf, Cond.instanceMethod yX2_placeOf]
def wsX11_firm_r4 : List Cond := [Cond.selects RX2 yX2_placeOf yX2_placeOf, Cond.code yX2_placeOf cX2_placeOf 3 (some .int), Cond.methodLink RX0 35 yX0_isEnough, Cond.instanceMethod yX0_isEnough, Cond.selects RX0 yX0_isEnough yX0_isEnough, Cond.code yX0_isEnough cX0_isEnough 5 (some .boolean), Cond.fieldLink RX0 42 "LadleKings$Kitchen" "state" "LLadleKings$State;", Cond.fieldLink RX0 46 "LadleKings$State" "spoons" "[I"]
def wsX11_firm : List Cond := Cond.code yX11_firm cX11_firm 4 (some .int) :: ((wsX11_firm_r1 ++ (wsX11_firm_r2 ++ (wsX11_firm_r3 ++ wsX11_firm_r4))) ++ wsX110 ++ wsX60 ++ wsX20 ++ wsX80 ++ wsX00)
def wsX11_see : List Cond := Cond.code yX11_see cX11_see 2 (some .int) :: ([Cond.fieldLink RX11 10 "LadleKings" "rules" "LLadleKings$Rules;", Cond.fieldLink RX11 19 "LadleKings" "state" "LLadleKings$State;", Cond.fieldLink RX11 247 "LadleKings$State" "seenDays" "I", Cond.fieldLink RX11 250 "LadleKings$State" "seen" "[I", Cond.methodLink RX11 145 yX6_hasSeat, Cond.instanceMethod yX6_hasSeat, Cond.selects RX6 yX6_hasSeat yX6_hasSeat, Cond.initialized RX6, Cond.code yX6_hasSeat cX6_hasSeat 2 (some .boolean), Cond.fieldLink RX6 9 "LadleKings$Rules" "seats" "I"] ++ wsX110 ++ wsX80 ++ wsX60)
def wsX11_forget : List Cond := Cond.code yX11_forget cX11_forget 3 (some .int) :: ([Cond.fieldLink RX11 19 "LadleKings" "state" "LLadleKings$State;", Cond.fieldLink RX11 247 "LadleKings$State" "seenDays" "I"] ++ wsX110 ++ wsX80)
def wsX11_histories_r1 : List Cond := [Cond.fieldLink RX11 74 "LadleKings" "past" "LLadleKings$Past;", Cond.methodLink RX11 221 yX11_isRowQuestion, Cond.static yX11_isRowQuestion, Cond.initialized RX11, Cond.code yX11_isRowQuestion cX11_isRowQuestion 2 (some .boolean), Cond.methodLink RX11 253 yX4_howMany, Cond.instanceMethod yX4_howMany, Cond.selects RX4 yX4_howMany yX4_howMany, Cond.initialized RX4, Cond.code yX4_howMany cX4_howMany 7 (some .int), Cond.fieldLink RX4 15 "LadleKings$Past" "kitchen" "LLadleKings$Kitchen;", Cond.fieldLink RX4 19 "LadleKings$Kitchen" "state" "LLadleKings$State;", Cond.fieldLink RX4 25 "LadleKings$State" "king" "I", Cond.fieldLink RX4 31 "LadleKings$State" "bone" "I", Cond.fieldLink RX4 34 "LadleKings$State" "seenDays" "I", Cond.fieldLink RX4 37 "LadleKings$State" "seen" "[I", Cond.fieldLink RX4 9 "LadleKings$Past" "fitting" "[I", Cond.methodLink RX4 40 yX2_serve, Cond.instanceMethod yX2_serve, Cond.selects RX2 yX2_serve yX2_serve, Cond.initialized RX2, Cond.code yX2_serve cX2_serve 7 none, Cond.fieldLink RX2 21 "LadleKings$Kitchen" "rules" "LLadleKings$Rules;", Cond.fieldLink RX2 29 "LadleKings$Rules" "seats" "I"]
def wsX11_histories_r2 : List Cond := [Cond.fieldLink RX2 25 "LadleKings$Kitchen" "state" "LLadleKings$State;", Cond.fieldLink RX2 9 "LadleKings$Kitchen" "places" "[I", Cond.fieldLink RX2 15 "LadleKings$Kitchen" "holders" "[I", Cond.methodLink RX2 35 yX6_inRing, Cond.instanceMethod yX6_inRing, Cond.selects RX6 yX6_inRing yX6_inRing, Cond.initialized RX6, Cond.code yX6_inRing cX6_inRing 4 (some .int), Cond.fieldLink RX6 9 "LadleKings$Rules" "seats" "I", Cond.methodLink RX2 39 yX8_isFriend, Cond.instanceMethod yX8_isFriend, Cond.selects RX8 yX8_isFriend yX8_isFriend, Cond.initialized RX8, Cond.code yX8_isFriend cX8_isFriend 3 (some .boolean), Cond.fieldLink RX8 15 "LadleKings$State" "friends" "[I", Cond.methodLink RX4 44 yX2_placeOf, Cond.instanceMethod yX2_placeOf, Cond.selects RX2 yX2_placeOf yX2_placeOf, Cond.code yX2_placeOf cX2_placeOf 3 (some .int), Cond.methodLink RX4 48 yX4_stirsBringing, Cond.instanceMethod yX4_stirsBringing, Cond.selects RX4 yX4_stirsBringing yX4_stirsBringing, Cond.code yX4_stirsBringing cX4_stirsBringing 5 (some .int), Cond.fieldLink RX4 57 "LadleKings$Kitchen" "rules" "LLadleKings$Rules;"]
def wsX11_histories_r3 : List Cond := [Cond.fieldLink RX4 61 "LadleKings$Rules" "stirs" "I", Cond.methodLink RX4 66 yX6_placeAfter, Cond.instanceMethod yX6_placeAfter, Cond.selects RX6 yX6_placeAfter yX6_placeAfter, Cond.code yX6_placeAfter cX6_placeAfter 3 (some .int), Cond.fieldLink RX6 31 "LadleKings$Rules" "after" "[I", Cond.methodLink RX4 51 yJ6_bitCount_0f7a4, Cond.static yJ6_bitCount_0f7a4, Cond.initialized RJ6, Cond.code yJ6_bitCount_0f7a4 cJ6_bitCount_0f7a4 1 (some .int), Cond.constant RJ6 265 (1431655765), Cond.constant RJ6 266 (858993459), Cond.constant RJ6 267 (252645135), Cond.methodLink RX11 256 yX4_firstStirOfDay, Cond.instanceMethod yX4_firstStirOfDay, Cond.selects RX4 yX4_firstStirOfDay yX4_firstStirOfDay, Cond.code yX4_firstStirOfDay cX4_firstStirOfDay 4 (some .int), Cond.methodLink RX4 73 yX4_stirsOfDay, Cond.instanceMethod yX4_stirsOfDay, Cond.selects RX4 yX4_stirsOfDay yX4_stirsOfDay, Cond.code yX4_stirsOfDay cX4_stirsOfDay 3 (some .int), Cond.methodLink RX4 69 yX4_howMany]
def wsX11_histories : List Cond := Cond.code yX11_histories cX11_histories 2 (some .int) :: ((wsX11_histories_r1 ++ (wsX11_histories_r2 ++ wsX11_histories_r3)) ++ wsX110 ++ wsX40 ++ wsX20 ++ wsX80 ++ wsX60)
def wsX11_could_r1 : List Cond := [Cond.fieldLink RX11 19 "LadleKings" "state" "LLadleKings$State;", Cond.fieldLink RX11 247 "LadleKings$State" "seenDays" "I", Cond.fieldLink RX11 74 "LadleKings" "past" "LLadleKings$Past;", Cond.methodLink RX11 259 yX4_stirsOfDay, Cond.instanceMethod yX4_stirsOfDay, Cond.selects RX4 yX4_stirsOfDay yX4_stirsOfDay, Cond.initialized RX4, Cond.code yX4_stirsOfDay cX4_stirsOfDay 3 (some .int), Cond.fieldLink RX4 15 "LadleKings$Past" "kitchen" "LLadleKings$Kitchen;", Cond.fieldLink RX4 19 "LadleKings$Kitchen" "state" "LLadleKings$State;", Cond.fieldLink RX4 34 "LadleKings$State" "seenDays" "I", Cond.fieldLink RX4 9 "LadleKings$Past" "fitting" "[I", Cond.methodLink RX4 69 yX4_howMany, Cond.instanceMethod yX4_howMany, Cond.selects RX4 yX4_howMany yX4_howMany, Cond.code yX4_howMany cX4_howMany 7 (some .int), Cond.fieldLink RX4 25 "LadleKings$State" "king" "I", Cond.fieldLink RX4 31 "LadleKings$State" "bone" "I", Cond.fieldLink RX4 37 "LadleKings$State" "seen" "[I", Cond.methodLink RX4 40 yX2_serve, Cond.instanceMethod yX2_serve, Cond.selects RX2 yX2_serve yX2_serve, Cond.initialized RX2, Cond.code yX2_serve cX2_serve 7 none]
def wsX11_could_r2 : List Cond := [Cond.fieldLink RX2 21 "LadleKings$Kitchen" "rules" "LLadleKings$Rules;", Cond.fieldLink RX2 29 "LadleKings$Rules" "seats" "I", Cond.fieldLink RX2 25 "LadleKings$Kitchen" "state" "LLadleKings$State;", Cond.fieldLink RX2 9 "LadleKings$Kitchen" "places" "[I", Cond.fieldLink RX2 15 "LadleKings$Kitchen" "holders" "[I", Cond.methodLink RX2 35 yX6_inRing, Cond.instanceMethod yX6_inRing, Cond.selects RX6 yX6_inRing yX6_inRing, Cond.initialized RX6, Cond.code yX6_inRing cX6_inRing 4 (some .int), Cond.fieldLink RX6 9 "LadleKings$Rules" "seats" "I", Cond.methodLink RX2 39 yX8_isFriend, Cond.instanceMethod yX8_isFriend, Cond.selects RX8 yX8_isFriend yX8_isFriend, Cond.initialized RX8, Cond.code yX8_isFriend cX8_isFriend 3 (some .boolean), Cond.fieldLink RX8 15 "LadleKings$State" "friends" "[I", Cond.methodLink RX4 44 yX2_placeOf, Cond.instanceMethod yX2_placeOf, Cond.selects RX2 yX2_placeOf yX2_placeOf, Cond.code yX2_placeOf cX2_placeOf 3 (some .int), Cond.methodLink RX4 48 yX4_stirsBringing, Cond.instanceMethod yX4_stirsBringing, Cond.selects RX4 yX4_stirsBringing yX4_stirsBringing]
def wsX11_could_r3 : List Cond := [Cond.code yX4_stirsBringing cX4_stirsBringing 5 (some .int), Cond.fieldLink RX4 57 "LadleKings$Kitchen" "rules" "LLadleKings$Rules;", Cond.fieldLink RX4 61 "LadleKings$Rules" "stirs" "I", Cond.methodLink RX4 66 yX6_placeAfter, Cond.instanceMethod yX6_placeAfter, Cond.selects RX6 yX6_placeAfter yX6_placeAfter, Cond.code yX6_placeAfter cX6_placeAfter 3 (some .int), Cond.fieldLink RX6 31 "LadleKings$Rules" "after" "[I", Cond.methodLink RX4 51 yJ6_bitCount_0f7a4, Cond.static yJ6_bitCount_0f7a4, Cond.initialized RJ6, Cond.code yJ6_bitCount_0f7a4 cJ6_bitCount_0f7a4 1 (some .int), Cond.constant RJ6 265 (1431655765), Cond.constant RJ6 266 (858993459), Cond.constant RJ6 267 (252645135)]
def wsX11_could : List Cond := Cond.code yX11_could cX11_could 2 (some .int) :: ((wsX11_could_r1 ++ (wsX11_could_r2 ++ wsX11_could_r3)) ++ wsX110 ++ wsX80 ++ wsX40 ++ wsX20 ++ wsX60)
def wsX11_blind_r1 : List Cond := [Cond.constantLong RX11 202 (-1), Cond.fieldLink RX11 53 "LadleKings" "luck" "LLadleKings$Luck;", Cond.fieldLink RX11 10 "LadleKings" "rules" "LLadleKings$Rules;", Cond.fieldLink RX11 130 "LadleKings$Rules" "seats" "I", Cond.methodLink RX11 199 yX11_isPart, Cond.static yX11_isPart, Cond.initialized RX11, Cond.code yX11_isPart cX11_isPart 1 (some .boolean), Cond.methodLink RX11 262 yX3_triesWithFinds, Cond.instanceMethod yX3_triesWithFinds, Cond.selects RX3 yX3_triesWithFinds yX3_triesWithFinds, Cond.initialized RX3, Cond.code yX3_triesWithFinds cX3_triesWithFinds 6 (some .long), Cond.fieldLink RX3 18 "LadleKings$Luck" "finds" "[J", Cond.fieldLink RX3 21 "LadleKings$Luck" "kitchen" "LLadleKings$Kitchen;", Cond.fieldLink RX3 60 "LadleKings$Kitchen" "rules" "LLadleKings$Rules;", Cond.fieldLink RX3 64 "LadleKings$Rules" "seats" "I", Cond.methodLink RX3 51 yJ7_fill_d0a16, Cond.static yJ7_fill_d0a16, Cond.initialized RJ7, Cond.code yJ7_fill_d0a16 cJ7_fill_d0a16 5 none, Cond.methodLink RX11 210 yX3_power, Cond.static yX3_power, Cond.code yX3_power cX3_power 5 (some .long)]
def wsX11_blind_r2 : List Cond := [Cond.methodLink RX11 213 yX3_part, Cond.static yX3_part, Cond.code yX3_part cX3_part 7 (some .long), Cond.methodLink RX3 89 yX3_greatestDivisor, Cond.static yX3_greatestDivisor, Cond.code yX3_greatestDivisor cX3_greatestDivisor 11 (some .long)]
def wsX11_blind : List Cond := Cond.code yX11_blind cX11_blind 4 (some .long) :: ((wsX11_blind_r1 ++ wsX11_blind_r2) ++ wsX110 ++ wsX60 ++ wsX30 ++ wsX20)
def wsX11_fair_r1 : List Cond := [Cond.fieldLink RX11 10 "LadleKings" "rules" "LLadleKings$Rules;", Cond.fieldLink RX11 133 "LadleKings$Rules" "stirs" "I", Cond.fieldLink RX11 81 "LadleKings" "fairDays" "LLadleKings$FairDays;", Cond.fieldLink RX11 268 "LadleKings$FairDays" "bestRow" "[I", Cond.methodLink RX11 221 yX11_isRowQuestion, Cond.static yX11_isRowQuestion, Cond.initialized RX11, Cond.code yX11_isRowQuestion cX11_isRowQuestion 2 (some .boolean), Cond.methodLink RX11 265 yX1_leastSpread, Cond.instanceMethod yX1_leastSpread, Cond.selects RX1 yX1_leastSpread yX1_leastSpread, Cond.initialized RX1, Cond.code yX1_leastSpread cX1_leastSpread 5 (some .int), Cond.methodLink RX1 41 Lib.Math.min.name, Cond.static Lib.Math.min.name, Cond.initialized "java/lang/Math", Cond.code Lib.Math.min.name Lib.Math.min.code 2 (some .int), Cond.fieldLink RX1 30 "LadleKings$FairDays" "days" "I", Cond.fieldLink RX1 34 "LadleKings$FairDays" "least" "I", Cond.methodLink RX1 47 yX1_begin, Cond.instanceMethod yX1_begin, Cond.selects RX1 yX1_begin yX1_begin, Cond.code yX1_begin cX1_begin 2 none, Cond.fieldLink RX1 37 "LadleKings$FairDays" "kitchen" "LLadleKings$Kitchen;"]
def wsX11_fair_r2 : List Cond := [Cond.fieldLink RX1 66 "LadleKings$Kitchen" "state" "LLadleKings$State;", Cond.fieldLink RX1 70 "LadleKings$State" "pieces" "[I", Cond.fieldLink RX1 11 "LadleKings$FairDays" "pots" "[I", Cond.fieldLink RX1 75 "LadleKings$Kitchen" "rules" "LLadleKings$Rules;", Cond.fieldLink RX1 79 "LadleKings$Rules" "seats" "I", Cond.methodLink RX1 84 arraycopyName, Cond.native arraycopyName, Cond.static arraycopyName, Cond.initialized "java/lang/System", Cond.fieldLink RX1 15 "LadleKings$FairDays" "sums" "[I", Cond.fieldLink RX1 24 "LadleKings$FairDays" "row" "[I", Cond.fieldLink RX1 18 "LadleKings$FairDays" "kings" "[I", Cond.fieldLink RX1 96 "LadleKings$State" "king" "I", Cond.fieldLink RX1 21 "LadleKings$FairDays" "bones" "[I", Cond.fieldLink RX1 99 "LadleKings$State" "bone" "I", Cond.methodLink RX1 61 yX2_serveAllKings, Cond.instanceMethod yX2_serveAllKings, Cond.selects RX2 yX2_serveAllKings yX2_serveAllKings, Cond.initialized RX2, Cond.code yX2_serveAllKings cX2_serveAllKings 2 none, Cond.fieldLink RX2 21 "LadleKings$Kitchen" "rules" "LLadleKings$Rules;", Cond.fieldLink RX2 29 "LadleKings$Rules" "seats" "I", Cond.methodLink RX2 45 yX2_serve, Cond.instanceMethod yX2_serve]
def wsX11_fair_r3 : List Cond := [Cond.selects RX2 yX2_serve yX2_serve, Cond.code yX2_serve cX2_serve 7 none, Cond.fieldLink RX2 25 "LadleKings$Kitchen" "state" "LLadleKings$State;", Cond.fieldLink RX2 9 "LadleKings$Kitchen" "places" "[I", Cond.fieldLink RX2 15 "LadleKings$Kitchen" "holders" "[I", Cond.methodLink RX2 35 yX6_inRing, Cond.instanceMethod yX6_inRing, Cond.selects RX6 yX6_inRing yX6_inRing, Cond.initialized RX6, Cond.code yX6_inRing cX6_inRing 4 (some .int), Cond.fieldLink RX6 9 "LadleKings$Rules" "seats" "I", Cond.methodLink RX2 39 yX8_isFriend, Cond.instanceMethod yX8_isFriend, Cond.selects RX8 yX8_isFriend yX8_isFriend, Cond.initialized RX8, Cond.code yX8_isFriend cX8_isFriend 3 (some .boolean), Cond.fieldLink RX8 15 "LadleKings$State" "friends" "[I", Cond.methodLink RX1 90 yJ7_fill_53178, Cond.static yJ7_fill_53178, Cond.initialized RJ7, Cond.code yJ7_fill_53178 cJ7_fill_53178 4 none, Cond.methodLink RX1 51 yX1_goOn, Cond.instanceMethod yX1_goOn, Cond.selects RX1 yX1_goOn yX1_goOn]
def wsX11_fair_r4 : List Cond := [Cond.code yX1_goOn cX1_goOn 7 none, Cond.methodLink RX1 102 yX6_placeAfter, Cond.instanceMethod yX6_placeAfter, Cond.selects RX6 yX6_placeAfter yX6_placeAfter, Cond.code yX6_placeAfter cX6_placeAfter 3 (some .int), Cond.fieldLink RX6 31 "LadleKings$Rules" "after" "[I", Cond.methodLink RX1 105 yX2_placeOf, Cond.instanceMethod yX2_placeOf, Cond.selects RX2 yX2_placeOf yX2_placeOf, Cond.code yX2_placeOf cX2_placeOf 3 (some .int), Cond.methodLink RX1 108 yX2_holderOf, Cond.instanceMethod yX2_holderOf, Cond.selects RX2 yX2_holderOf yX2_holderOf, Cond.code yX2_holderOf cX2_holderOf 3 (some .int), Cond.methodLink RX1 54 yX1_weigh, Cond.instanceMethod yX1_weigh, Cond.selects RX1 yX1_weigh yX1_weigh, Cond.code yX1_weigh cX1_weigh 4 none, Cond.methodLink RX1 111 Lib.Math.max.name, Cond.static Lib.Math.max.name, Cond.code Lib.Math.max.name Lib.Math.max.code 2 (some .int), Cond.fieldLink RX1 27 "LadleKings$FairDays" "bestRow" "[I", Cond.methodLink RX1 57 yX1_nextRow, Cond.instanceMethod yX1_nextRow]
def wsX11_fair_r5 : List Cond := [Cond.selects RX1 yX1_nextRow yX1_nextRow, Cond.code yX1_nextRow cX1_nextRow 2 (some .int), Cond.fieldLink RX1 114 "LadleKings$Rules" "stirs" "I", Cond.methodLink RX11 231 yX11_ofRow, Cond.static yX11_ofRow, Cond.code yX11_ofRow cX11_ofRow 3 (some .int)]
def wsX11_fair : List Cond := Cond.code yX11_fair cX11_fair 4 (some .int) :: ((wsX11_fair_r1 ++ (wsX11_fair_r2 ++ (wsX11_fair_r3 ++ (wsX11_fair_r4 ++ wsX11_fair_r5)))) ++ wsX110 ++ wsX60 ++ wsX10 ++ wsX20 ++ wsX80)
def wsX11_isImage : List Cond := Cond.code yX11_isImage cX11_isImage 1 (some .boolean) :: ([])
def wsX11_keep_r1 : List Cond := [Cond.fieldLink RX11 89 "LadleKings" "imageHeld" "[Z", Cond.fieldLink RX11 85 "LadleKings" "images" "[LLadleKings$State;", Cond.fieldLink RX11 19 "LadleKings" "state" "LLadleKings$State;", Cond.methodLink RX11 271 yX11_isImage, Cond.static yX11_isImage, Cond.initialized RX11, Cond.code yX11_isImage cX11_isImage 1 (some .boolean), Cond.methodLink RX11 127 yX8_copy, Cond.instanceMethod yX8_copy, Cond.selects RX8 yX8_copy yX8_copy, Cond.initialized RX8, Cond.code yX8_copy cX8_copy 2 none, Cond.fieldLink RX8 9 "LadleKings$State" "pieces" "[I", Cond.methodLink RX8 46 arraycopyName, Cond.native arraycopyName, Cond.static arraycopyName, Cond.initialized "java/lang/System", Cond.fieldLink RX8 15 "LadleKings$State" "friends" "[I", Cond.fieldLink RX8 18 "LadleKings$State" "spoons" "[I", Cond.fieldLink RX8 21 "LadleKings$State" "eaten" "[I", Cond.fieldLink RX8 24 "LadleKings$State" "seen" "[I", Cond.fieldLink RX8 27 "LadleKings$State" "seenDays" "I", Cond.fieldLink RX8 31 "LadleKings$State" "bone" "I", Cond.fieldLink RX8 34 "LadleKings$State" "king" "I"]
def wsX11_keep_r2 : List Cond := [Cond.fieldLink RX8 37 "LadleKings$State" "days" "I"]
def wsX11_keep : List Cond := Cond.code yX11_keep cX11_keep 3 (some .int) :: ((wsX11_keep_r1 ++ wsX11_keep_r2) ++ wsX110 ++ wsX80)
def wsX11_back_r1 : List Cond := [Cond.fieldLink RX11 89 "LadleKings" "imageHeld" "[Z", Cond.fieldLink RX11 19 "LadleKings" "state" "LLadleKings$State;", Cond.fieldLink RX11 85 "LadleKings" "images" "[LLadleKings$State;", Cond.fieldLink RX11 136 "LadleKings$State" "king" "I", Cond.methodLink RX11 271 yX11_isImage, Cond.static yX11_isImage, Cond.initialized RX11, Cond.code yX11_isImage cX11_isImage 1 (some .boolean), Cond.methodLink RX11 127 yX8_copy, Cond.instanceMethod yX8_copy, Cond.selects RX8 yX8_copy yX8_copy, Cond.initialized RX8, Cond.code yX8_copy cX8_copy 2 none, Cond.fieldLink RX8 9 "LadleKings$State" "pieces" "[I", Cond.methodLink RX8 46 arraycopyName, Cond.native arraycopyName, Cond.static arraycopyName, Cond.initialized "java/lang/System", Cond.fieldLink RX8 15 "LadleKings$State" "friends" "[I", Cond.fieldLink RX8 18 "LadleKings$State" "spoons" "[I", Cond.fieldLink RX8 21 "LadleKings$State" "eaten" "[I", Cond.fieldLink RX8 24 "LadleKings$State" "seen" "[I", Cond.fieldLink RX8 27 "LadleKings$State" "seenDays" "I", Cond.fieldLink RX8 31 "LadleKings$State" "bone" "I"]
def wsX11_back_r2 : List Cond := [Cond.fieldLink RX8 34 "LadleKings$State" "king" "I", Cond.fieldLink RX8 37 "LadleKings$State" "days" "I"]
def wsX11_back : List Cond := Cond.code yX11_back cX11_back 2 (some .int) :: ((wsX11_back_r1 ++ wsX11_back_r2) ++ wsX110 ++ wsX80)
def wsX11_isSheet : List Cond := Cond.code yX11_isSheet cX11_isSheet 1 (some .boolean) :: ([])
def wsX11_isLane : List Cond := Cond.code yX11_isLane cX11_isLane 1 (some .boolean) :: ([])
def wsX11_sheet : List Cond := Cond.code yX11_sheet cX11_sheet 4 (some .int) :: ([Cond.fieldLink RX11 95 "LadleKings" "sheets" "[LLadleKings$Sheet;", Cond.methodLink RX11 274 yX11_isSheet, Cond.static yX11_isSheet, Cond.initialized RX11, Cond.code yX11_isSheet cX11_isSheet 1 (some .boolean), Cond.methodLink RX11 277 yX11_isLane, Cond.static yX11_isLane, Cond.code yX11_isLane cX11_isLane 1 (some .boolean), Cond.methodLink RX11 280 yX7_renew, Cond.instanceMethod yX7_renew, Cond.selects RX7 yX7_renew yX7_renew, Cond.initialized RX7, Cond.code yX7_renew cX7_renew 3 none, Cond.fieldLink RX7 9 "LadleKings$Sheet" "lane" "I", Cond.fieldLink RX7 15 "LadleKings$Sheet" "size" "I", Cond.fieldLink RX7 18 "LadleKings$Sheet" "cells" "[I", Cond.methodLink RX7 22 yJ7_fill_53178, Cond.static yJ7_fill_53178, Cond.initialized RJ7, Cond.code yJ7_fill_53178 cJ7_fill_53178 4 none] ++ wsX110 ++ wsX70)
def wsX11_lay : List Cond := Cond.code yX11_lay cX11_lay 6 (some .int) :: ([Cond.fieldLink RX11 95 "LadleKings" "sheets" "[LLadleKings$Sheet;", Cond.fieldLink RX11 284 "LadleKings$Sheet" "lane" "I", Cond.methodLink RX11 274 yX11_isSheet, Cond.static yX11_isSheet, Cond.initialized RX11, Cond.code yX11_isSheet cX11_isSheet 1 (some .boolean), Cond.methodLink RX11 287 yX7_faultAt, Cond.instanceMethod yX7_faultAt, Cond.selects RX7 yX7_faultAt yX7_faultAt, Cond.initialized RX7, Cond.code yX7_faultAt cX7_faultAt 3 (some .int), Cond.fieldLink RX7 9 "LadleKings$Sheet" "lane" "I", Cond.fieldLink RX7 15 "LadleKings$Sheet" "size" "I", Cond.methodLink RX7 28 yX7_isNothing, Cond.instanceMethod yX7_isNothing, Cond.selects RX7 yX7_isNothing yX7_isNothing, Cond.code yX7_isNothing cX7_isNothing 1 (some .boolean), Cond.methodLink RX11 290 yX7_put, Cond.instanceMethod yX7_put, Cond.selects RX7 yX7_put yX7_put, Cond.code yX7_put cX7_put 3 none, Cond.fieldLink RX7 18 "LadleKings$Sheet" "cells" "[I"] ++ wsX110 ++ wsX70)
def wsX11_canPass : List Cond := Cond.code yX11_canPass cX11_canPass 3 (some .boolean) :: ([Cond.fieldLink RX11 10 "LadleKings" "rules" "LLadleKings$Rules;", Cond.fieldLink RX11 19 "LadleKings" "state" "LLadleKings$State;", Cond.fieldLink RX11 139 "LadleKings$State" "days" "I", Cond.methodLink RX11 165 yX6_hasStir, Cond.instanceMethod yX6_hasStir, Cond.selects RX6 yX6_hasStir yX6_hasStir, Cond.initialized RX6, Cond.code yX6_hasStir cX6_hasStir 2 (some .boolean), Cond.fieldLink RX6 15 "LadleKings$Rules" "stirs" "I"] ++ wsX110 ++ wsX80 ++ wsX60)
def wsX11_read_r1 : List Cond := [Cond.fieldLink RX11 95 "LadleKings" "sheets" "[LLadleKings$Sheet;", Cond.fieldLink RX11 293 "LadleKings$Sheet" "cells" "[I", Cond.fieldLink RX11 44 "LadleKings" "kitchen" "LLadleKings$Kitchen;", Cond.fieldLink RX11 103 "LadleKings" "latestTear" "I", Cond.methodLink RX11 274 yX11_isSheet, Cond.static yX11_isSheet, Cond.initialized RX11, Cond.code yX11_isSheet cX11_isSheet 1 (some .boolean), Cond.methodLink RX11 277 yX11_isLane, Cond.static yX11_isLane, Cond.code yX11_isLane cX11_isLane 1 (some .boolean), Cond.methodLink RX11 287 yX7_faultAt, Cond.instanceMethod yX7_faultAt, Cond.selects RX7 yX7_faultAt yX7_faultAt, Cond.initialized RX7, Cond.code yX7_faultAt cX7_faultAt 3 (some .int), Cond.fieldLink RX7 9 "LadleKings$Sheet" "lane" "I", Cond.fieldLink RX7 15 "LadleKings$Sheet" "size" "I", Cond.methodLink RX7 28 yX7_isNothing, Cond.instanceMethod yX7_isNothing, Cond.selects RX7 yX7_isNothing yX7_isNothing, Cond.code yX7_isNothing cX7_isNothing 1 (some .boolean), Cond.methodLink RX11 296 yX11_canPass, Cond.instanceMethod yX11_canPass]
def wsX11_read_r2 : List Cond := [Cond.selects RX11 yX11_canPass yX11_canPass, Cond.code yX11_canPass cX11_canPass 3 (some .boolean), Cond.fieldLink RX11 10 "LadleKings" "rules" "LLadleKings$Rules;", Cond.fieldLink RX11 19 "LadleKings" "state" "LLadleKings$State;", Cond.fieldLink RX11 139 "LadleKings$State" "days" "I", Cond.methodLink RX11 165 yX6_hasStir, Cond.instanceMethod yX6_hasStir, Cond.selects RX6 yX6_hasStir yX6_hasStir, Cond.initialized RX6, Cond.code yX6_hasStir cX6_hasStir 2 (some .boolean), Cond.fieldLink RX6 15 "LadleKings$Rules" "stirs" "I", Cond.methodLink RX11 196 yX2_passDay, Cond.instanceMethod yX2_passDay, Cond.selects RX2 yX2_passDay yX2_passDay, Cond.initialized RX2, Cond.code yX2_passDay cX2_passDay 4 none, Cond.fieldLink RX2 25 "LadleKings$Kitchen" "state" "LLadleKings$State;", Cond.fieldLink RX2 60 "LadleKings$State" "king" "I", Cond.fieldLink RX2 18 "LadleKings$Kitchen" "stirred" "[I", Cond.fieldLink RX2 49 "LadleKings$State" "pieces" "[I", Cond.fieldLink RX2 21 "LadleKings$Kitchen" "rules" "LLadleKings$Rules;", Cond.fieldLink RX2 29 "LadleKings$Rules" "seats" "I", Cond.methodLink RX2 66 arraycopyName, Cond.native arraycopyName]
def wsX11_read_r3 : List Cond := [Cond.static arraycopyName, Cond.initialized "java/lang/System", Cond.fieldLink RX2 72 "LadleKings$State" "bone" "I", Cond.fieldLink RX2 78 "LadleKings$State" "eaten" "[I", Cond.fieldLink RX2 87 "LadleKings$State" "days" "I", Cond.methodLink RX2 45 yX2_serve, Cond.instanceMethod yX2_serve, Cond.selects RX2 yX2_serve yX2_serve, Cond.code yX2_serve cX2_serve 7 none, Cond.fieldLink RX2 9 "LadleKings$Kitchen" "places" "[I", Cond.fieldLink RX2 15 "LadleKings$Kitchen" "holders" "[I", Cond.methodLink RX2 35 yX6_inRing, Cond.instanceMethod yX6_inRing, Cond.selects RX6 yX6_inRing yX6_inRing, Cond.code yX6_inRing cX6_inRing 4 (some .int), Cond.fieldLink RX6 9 "LadleKings$Rules" "seats" "I", Cond.methodLink RX2 39 yX8_isFriend, Cond.instanceMethod yX8_isFriend, Cond.selects RX8 yX8_isFriend yX8_isFriend, Cond.initialized RX8, Cond.code yX8_isFriend cX8_isFriend 3 (some .boolean), Cond.fieldLink RX8 15 "LadleKings$State" "friends" "[I", Cond.methodLink RX2 63 yX2_stirPot, Cond.instanceMethod yX2_stirPot]
def wsX11_read_r4 : List Cond := [Cond.selects RX2 yX2_stirPot yX2_stirPot, Cond.code yX2_stirPot cX2_stirPot 2 none, Cond.methodLink RX2 52 yX6_stirInto, Cond.instanceMethod yX6_stirInto, Cond.selects RX6 yX6_stirInto yX6_stirInto, Cond.code yX6_stirInto cX6_stirInto 5 none, Cond.methodLink RX6 61 yX6_placeAfter, Cond.instanceMethod yX6_placeAfter, Cond.selects RX6 yX6_placeAfter yX6_placeAfter, Cond.code yX6_placeAfter cX6_placeAfter 3 (some .int), Cond.fieldLink RX6 31 "LadleKings$Rules" "after" "[I", Cond.methodLink RX2 75 yX6_placeAfter, Cond.methodLink RX2 81 yX2_bowlOf, Cond.instanceMethod yX2_bowlOf, Cond.selects RX2 yX2_bowlOf yX2_bowlOf, Cond.code yX2_bowlOf cX2_bowlOf 3 (some .int), Cond.methodLink RX2 56 yX2_placeOf, Cond.instanceMethod yX2_placeOf, Cond.selects RX2 yX2_placeOf yX2_placeOf, Cond.code yX2_placeOf cX2_placeOf 3 (some .int), Cond.methodLink RX2 84 yX2_holderOf, Cond.instanceMethod yX2_holderOf, Cond.selects RX2 yX2_holderOf yX2_holderOf, Cond.code yX2_holderOf cX2_holderOf 3 (some .int)]
def wsX11_read : List Cond := Cond.code yX11_read cX11_read 9 (some .int) :: ((wsX11_read_r1 ++ (wsX11_read_r2 ++ (wsX11_read_r3 ++ wsX11_read_r4))) ++ wsX110 ++ wsX70 ++ wsX80 ++ wsX60 ++ wsX20)
def wsX11_torn : List Cond := Cond.code yX11_torn cX11_torn 1 (some .int) :: ([Cond.fieldLink RX11 103 "LadleKings" "latestTear" "I"] ++ wsX110)
def wsX11_piecesInPot : List Cond := Cond.code yX11_piecesInPot cX11_piecesInPot 3 (some .int) :: ([Cond.fieldLink RX11 10 "LadleKings" "rules" "LLadleKings$Rules;", Cond.fieldLink RX11 130 "LadleKings$Rules" "seats" "I", Cond.fieldLink RX11 19 "LadleKings" "state" "LLadleKings$State;", Cond.fieldLink RX11 149 "LadleKings$State" "pieces" "[I"] ++ wsX110 ++ wsX60 ++ wsX80)
def wsX11_count : List Cond := Cond.code yX11_count cX11_count 2 (some .int) :: ([Cond.fieldLink RX11 19 "LadleKings" "state" "LLadleKings$State;", Cond.fieldLink RX11 247 "LadleKings$State" "seenDays" "I", Cond.fieldLink RX11 89 "LadleKings" "imageHeld" "[Z", Cond.fieldLink RX11 26 "LadleKings" "tape" "LLadleKings$Tape;", Cond.fieldLink RX11 111 "LadleKings$Tape" "length" "I", Cond.fieldLink RX11 95 "LadleKings" "sheets" "[LLadleKings$Sheet;", Cond.fieldLink RX11 303 "LadleKings$Sheet" "size" "I", Cond.methodLink RX11 299 yX7_isNothing, Cond.instanceMethod yX7_isNothing, Cond.selects RX7 yX7_isNothing yX7_isNothing, Cond.initialized RX7, Cond.code yX7_isNothing cX7_isNothing 1 (some .boolean), Cond.fieldLink RX7 9 "LadleKings$Sheet" "lane" "I", Cond.methodLink RX11 306 yX11_piecesInPot, Cond.instanceMethod yX11_piecesInPot, Cond.selects RX11 yX11_piecesInPot yX11_piecesInPot, Cond.initialized RX11, Cond.code yX11_piecesInPot cX11_piecesInPot 3 (some .int), Cond.fieldLink RX11 10 "LadleKings" "rules" "LLadleKings$Rules;", Cond.fieldLink RX11 130 "LadleKings$Rules" "seats" "I", Cond.fieldLink RX11 149 "LadleKings$State" "pieces" "[I"] ++ wsX110 ++ wsX80 ++ wsX90 ++ wsX70 ++ wsX60)
def wsX12_firstDraft : List Cond := Cond.code yX12_firstDraft cX12_firstDraft 2 none :: ([Cond.fieldLink RX12 23 "LadleKingsModel" "draft" "[I", Cond.fieldLink RX12 29 "LadleKingsModel" "dNeed" "[I", Cond.fieldLink RX12 87 "LadleKingsModel" "dSeats" "I", Cond.fieldLink RX12 91 "LadleKingsModel" "dStirs" "I", Cond.fieldLink RX12 94 "LadleKingsModel" "told" "I", Cond.fieldLink RX12 97 "LadleKingsModel" "highest" "I"] ++ wsX120)
def wsX12_broughtTo : List Cond := Cond.code yX12_broughtTo cX12_broughtTo 5 (some .int) :: ([Cond.fieldLink RX12 26 "LadleKingsModel" "dStir" "[I", Cond.fieldLink RX12 87 "LadleKingsModel" "dSeats" "I"] ++ wsX120)
def wsX12_keepDraft : List Cond := Cond.code yX12_keepDraft cX12_keepDraft 3 none :: ([Cond.fieldLink RX12 7 "LadleKingsModel" "st" "[I", Cond.fieldLink RX12 23 "LadleKingsModel" "draft" "[I", Cond.fieldLink RX12 87 "LadleKingsModel" "dSeats" "I", Cond.fieldLink RX12 100 "LadleKingsModel" "seats" "I", Cond.fieldLink RX12 91 "LadleKingsModel" "dStirs" "I", Cond.fieldLink RX12 103 "LadleKingsModel" "stirs" "I", Cond.fieldLink RX12 20 "LadleKingsModel" "need" "[I", Cond.fieldLink RX12 29 "LadleKingsModel" "dNeed" "[I", Cond.fieldLink RX12 17 "LadleKingsModel" "brings" "[I", Cond.fieldLink RX12 13 "LadleKingsModel" "isKept" "[Z", Cond.methodLink RX12 106 yX12_broughtTo, Cond.instanceMethod yX12_broughtTo, Cond.selects RX12 yX12_broughtTo yX12_broughtTo, Cond.initialized RX12, Cond.code yX12_broughtTo cX12_broughtTo 5 (some .int), Cond.fieldLink RX12 26 "LadleKingsModel" "dStir" "[I"] ++ wsX120)
def wsX12_init_r1 : List Cond := [Cond.methodLink RX12 1 objectInit, Cond.instanceMethod objectInit, Cond.code objectInit ⟨#[0xb1]⟩ 1 none, Cond.arrayClass .int, Cond.fieldLink RX12 7 "LadleKingsModel" "st" "[I", Cond.arrayClass .boolean, Cond.fieldLink RX12 13 "LadleKingsModel" "isKept" "[Z", Cond.fieldLink RX12 17 "LadleKingsModel" "brings" "[I", Cond.fieldLink RX12 20 "LadleKingsModel" "need" "[I", Cond.fieldLink RX12 23 "LadleKingsModel" "draft" "[I", Cond.fieldLink RX12 26 "LadleKingsModel" "dStir" "[I", Cond.fieldLink RX12 29 "LadleKingsModel" "dNeed" "[I", Cond.fieldLink RX12 32 "LadleKingsModel" "tape" "[I", Cond.fieldLink RX12 35 "LadleKingsModel" "places" "[I", Cond.fieldLink RX12 38 "LadleKingsModel" "stirred" "[I", Cond.arrayClass .long, Cond.fieldLink RX12 41 "LadleKingsModel" "ways" "[J", Cond.fieldLink RX12 45 "LadleKingsModel" "waysThen" "[J", Cond.fieldLink RX12 48 "LadleKingsModel" "stays" "[I", Cond.fieldLink RX12 51 "LadleKingsModel" "fewest" "[I", Cond.fieldLink RX12 54 "LadleKingsModel" "bowls" "[I", Cond.fieldLink RX12 57 "LadleKingsModel" "has" "[I", Cond.fieldLink RX12 60 "LadleKingsModel" "goesOn" "[I", Cond.fieldLink RX12 63 "LadleKingsModel" "isThere" "[Z"]
def wsX12_init_r2 : List Cond := [Cond.fieldLink RX12 66 "LadleKingsModel" "isThereThen" "[Z", Cond.fieldLink RX12 69 "LadleKingsModel" "bestRow" "[I", Cond.fieldLink RX12 72 "LadleKingsModel" "lanes" "[I", Cond.fieldLink RX12 75 "LadleKingsModel" "sizes" "[I", Cond.fieldLink RX12 78 "LadleKingsModel" "cells" "[I", Cond.methodLink RX12 81 yX12_firstDraft, Cond.instanceMethod yX12_firstDraft, Cond.selects RX12 yX12_firstDraft yX12_firstDraft, Cond.initialized RX12, Cond.code yX12_firstDraft cX12_firstDraft 2 none, Cond.fieldLink RX12 87 "LadleKingsModel" "dSeats" "I", Cond.fieldLink RX12 91 "LadleKingsModel" "dStirs" "I", Cond.fieldLink RX12 94 "LadleKingsModel" "told" "I", Cond.fieldLink RX12 97 "LadleKingsModel" "highest" "I", Cond.methodLink RX12 84 yX12_keepDraft, Cond.instanceMethod yX12_keepDraft, Cond.selects RX12 yX12_keepDraft yX12_keepDraft, Cond.code yX12_keepDraft cX12_keepDraft 3 none, Cond.fieldLink RX12 100 "LadleKingsModel" "seats" "I", Cond.fieldLink RX12 103 "LadleKingsModel" "stirs" "I", Cond.methodLink RX12 106 yX12_broughtTo, Cond.instanceMethod yX12_broughtTo, Cond.selects RX12 yX12_broughtTo yX12_broughtTo, Cond.code yX12_broughtTo cX12_broughtTo 5 (some .int)]
def wsX12_init : List Cond := Cond.code yX12_init cX12_init 2 none :: ((wsX12_init_r1 ++ wsX12_init_r2) ++ wsX120)
def wsX12_in : List Cond := Cond.code yX12_in cX12_in 6 (some .boolean) :: ([])
def wsX12_flag : List Cond := Cond.code yX12_flag cX12_flag 1 (some .int) :: ([])
def wsX12_feed : List Cond := Cond.code yX12_feed cX12_feed 4 (some .int) :: ([Cond.fieldLink RX12 110 "LadleKingsModel" "taped" "I", Cond.fieldLink RX12 32 "LadleKingsModel" "tape" "[I", Cond.constantLong RX12 113 (255)] ++ wsX120)
def wsX12_end : List Cond := Cond.code yX12_end cX12_end 3 (some .int) :: ([Cond.fieldLink RX12 110 "LadleKingsModel" "taped" "I", Cond.methodLink RX12 115 yX12_in, Cond.static yX12_in, Cond.initialized RX12, Cond.code yX12_in cX12_in 6 (some .boolean)] ++ wsX120)
def wsX12_needs : List Cond := Cond.code yX12_needs cX12_needs 3 none :: ([Cond.fieldLink RX12 119 "LadleKingsModel" "fault" "I", Cond.fieldLink RX12 122 "LadleKingsModel" "from" "I", Cond.fieldLink RX12 125 "LadleKingsModel" "wrongAt" "I"] ++ wsX120)
def wsX12_look : List Cond := Cond.code yX12_look cX12_look 2 (some .int) :: ([Cond.fieldLink RX12 110 "LadleKingsModel" "taped" "I", Cond.fieldLink RX12 32 "LadleKingsModel" "tape" "[I"] ++ wsX120)
def wsX12_is : List Cond := Cond.code yX12_is cX12_is 5 (some .boolean) :: ([Cond.fieldLink RX12 128 "LadleKingsModel" "pos" "I", Cond.fieldLink RX12 122 "LadleKingsModel" "from" "I", Cond.methodLink RX12 131 yX12_look, Cond.instanceMethod yX12_look, Cond.selects RX12 yX12_look yX12_look, Cond.initialized RX12, Cond.code yX12_look cX12_look 2 (some .int), Cond.fieldLink RX12 110 "LadleKingsModel" "taped" "I", Cond.fieldLink RX12 32 "LadleKingsModel" "tape" "[I"] ++ wsX120)
def wsX12_ends : List Cond := Cond.code yX12_ends cX12_ends 4 (some .boolean) :: ([Cond.fieldLink RX12 122 "LadleKingsModel" "from" "I", Cond.methodLink RX12 131 yX12_look, Cond.instanceMethod yX12_look, Cond.selects RX12 yX12_look yX12_look, Cond.initialized RX12, Cond.code yX12_look cX12_look 2 (some .int), Cond.fieldLink RX12 110 "LadleKingsModel" "taped" "I", Cond.fieldLink RX12 32 "LadleKingsModel" "tape" "[I"] ++ wsX120)
def wsX12_stirNow : List Cond := Cond.code yX12_stirNow cX12_stirNow 1 (some .int) :: ([Cond.methodLink RX12 135 yX12_is, Cond.instanceMethod yX12_is, Cond.selects RX12 yX12_is yX12_is, Cond.initialized RX12, Cond.code yX12_is cX12_is 5 (some .boolean), Cond.fieldLink RX12 128 "LadleKingsModel" "pos" "I", Cond.fieldLink RX12 122 "LadleKingsModel" "from" "I", Cond.methodLink RX12 131 yX12_look, Cond.instanceMethod yX12_look, Cond.selects RX12 yX12_look yX12_look, Cond.code yX12_look cX12_look 2 (some .int), Cond.fieldLink RX12 110 "LadleKingsModel" "taped" "I", Cond.fieldLink RX12 32 "LadleKingsModel" "tape" "[I", Cond.methodLink RX12 139 yX12_ends, Cond.instanceMethod yX12_ends, Cond.selects RX12 yX12_ends yX12_ends, Cond.code yX12_ends cX12_ends 4 (some .boolean)] ++ wsX120)
def wsX12_lineNow : List Cond := Cond.code yX12_lineNow cX12_lineNow 1 (some .int) :: ([Cond.methodLink RX12 135 yX12_is, Cond.instanceMethod yX12_is, Cond.selects RX12 yX12_is yX12_is, Cond.initialized RX12, Cond.code yX12_is cX12_is 5 (some .boolean), Cond.fieldLink RX12 128 "LadleKingsModel" "pos" "I", Cond.fieldLink RX12 122 "LadleKingsModel" "from" "I", Cond.methodLink RX12 131 yX12_look, Cond.instanceMethod yX12_look, Cond.selects RX12 yX12_look yX12_look, Cond.code yX12_look cX12_look 2 (some .int), Cond.fieldLink RX12 110 "LadleKingsModel" "taped" "I", Cond.fieldLink RX12 32 "LadleKingsModel" "tape" "[I", Cond.methodLink RX12 139 yX12_ends, Cond.instanceMethod yX12_ends, Cond.selects RX12 yX12_ends yX12_ends, Cond.code yX12_ends cX12_ends 4 (some .boolean), Cond.methodLink RX12 143 yX12_stirNow, Cond.instanceMethod yX12_stirNow, Cond.selects RX12 yX12_stirNow yX12_stirNow, Cond.code yX12_stirNow cX12_stirNow 1 (some .int)] ++ wsX120)
def wsX12_nextToken : List Cond := Cond.code yX12_nextToken cX12_nextToken 2 none :: ([Cond.fieldLink RX12 119 "LadleKingsModel" "fault" "I", Cond.fieldLink RX12 128 "LadleKingsModel" "pos" "I", Cond.fieldLink RX12 122 "LadleKingsModel" "from" "I", Cond.fieldLink RX12 147 "LadleKingsModel" "sort" "I", Cond.constantLong RX12 150 (97), Cond.constantLong RX12 152 (122), Cond.constantLong RX12 154 (48), Cond.constantLong RX12 156 (57), Cond.fieldLink RX12 158 "LadleKingsModel" "value" "I", Cond.methodLink RX12 131 yX12_look, Cond.instanceMethod yX12_look, Cond.selects RX12 yX12_look yX12_look, Cond.initialized RX12, Cond.code yX12_look cX12_look 2 (some .int), Cond.fieldLink RX12 110 "LadleKingsModel" "taped" "I", Cond.fieldLink RX12 32 "LadleKingsModel" "tape" "[I", Cond.methodLink RX12 115 yX12_in, Cond.static yX12_in, Cond.code yX12_in cX12_in 6 (some .boolean), Cond.methodLink RX12 161 yX12_needs, Cond.instanceMethod yX12_needs, Cond.selects RX12 yX12_needs yX12_needs, Cond.code yX12_needs cX12_needs 3 none, Cond.fieldLink RX12 125 "LadleKingsModel" "wrongAt" "I"] ++ wsX120)
def wsX12_looked : List Cond := Cond.code yX12_looked cX12_looked 3 (some .int) :: ([Cond.fieldLink RX12 119 "LadleKingsModel" "fault" "I", Cond.fieldLink RX12 147 "LadleKingsModel" "sort" "I", Cond.fieldLink RX12 158 "LadleKingsModel" "value" "I", Cond.methodLink RX12 161 yX12_needs, Cond.instanceMethod yX12_needs, Cond.selects RX12 yX12_needs yX12_needs, Cond.initialized RX12, Cond.code yX12_needs cX12_needs 3 none, Cond.fieldLink RX12 122 "LadleKingsModel" "from" "I", Cond.fieldLink RX12 125 "LadleKingsModel" "wrongAt" "I", Cond.methodLink RX12 115 yX12_in, Cond.static yX12_in, Cond.code yX12_in cX12_in 6 (some .boolean)] ++ wsX120)
def wsX12_readNumber_r1 : List Cond := [Cond.methodLink RX12 165 yX12_looked, Cond.instanceMethod yX12_looked, Cond.selects RX12 yX12_looked yX12_looked, Cond.initialized RX12, Cond.code yX12_looked cX12_looked 3 (some .int), Cond.fieldLink RX12 119 "LadleKingsModel" "fault" "I", Cond.fieldLink RX12 147 "LadleKingsModel" "sort" "I", Cond.fieldLink RX12 158 "LadleKingsModel" "value" "I", Cond.methodLink RX12 161 yX12_needs, Cond.instanceMethod yX12_needs, Cond.selects RX12 yX12_needs yX12_needs, Cond.code yX12_needs cX12_needs 3 none, Cond.fieldLink RX12 122 "LadleKingsModel" "from" "I", Cond.fieldLink RX12 125 "LadleKingsModel" "wrongAt" "I", Cond.methodLink RX12 115 yX12_in, Cond.static yX12_in, Cond.code yX12_in cX12_in 6 (some .boolean), Cond.methodLink RX12 168 yX12_nextToken, Cond.instanceMethod yX12_nextToken, Cond.selects RX12 yX12_nextToken yX12_nextToken, Cond.code yX12_nextToken cX12_nextToken 2 none, Cond.fieldLink RX12 128 "LadleKingsModel" "pos" "I", Cond.constantLong RX12 150 (97), Cond.constantLong RX12 152 (122)]
def wsX12_readNumber_r2 : List Cond := [Cond.constantLong RX12 154 (48), Cond.constantLong RX12 156 (57), Cond.methodLink RX12 131 yX12_look, Cond.instanceMethod yX12_look, Cond.selects RX12 yX12_look yX12_look, Cond.code yX12_look cX12_look 2 (some .int), Cond.fieldLink RX12 110 "LadleKingsModel" "taped" "I", Cond.fieldLink RX12 32 "LadleKingsModel" "tape" "[I"]
def wsX12_readNumber : List Cond := Cond.code yX12_readNumber cX12_readNumber 4 (some .int) :: ((wsX12_readNumber_r1 ++ wsX12_readNumber_r2) ++ wsX120)
def wsX12_lookedPlace : List Cond := Cond.code yX12_lookedPlace cX12_lookedPlace 2 (some .int) :: ([Cond.fieldLink RX12 97 "LadleKingsModel" "highest" "I", Cond.methodLink RX12 165 yX12_looked, Cond.instanceMethod yX12_looked, Cond.selects RX12 yX12_looked yX12_looked, Cond.initialized RX12, Cond.code yX12_looked cX12_looked 3 (some .int), Cond.fieldLink RX12 119 "LadleKingsModel" "fault" "I", Cond.fieldLink RX12 147 "LadleKingsModel" "sort" "I", Cond.fieldLink RX12 158 "LadleKingsModel" "value" "I", Cond.methodLink RX12 161 yX12_needs, Cond.instanceMethod yX12_needs, Cond.selects RX12 yX12_needs yX12_needs, Cond.code yX12_needs cX12_needs 3 none, Cond.fieldLink RX12 122 "LadleKingsModel" "from" "I", Cond.fieldLink RX12 125 "LadleKingsModel" "wrongAt" "I", Cond.methodLink RX12 115 yX12_in, Cond.static yX12_in, Cond.code yX12_in cX12_in 6 (some .boolean)] ++ wsX120)
def wsX12_readPlace_r1 : List Cond := [Cond.methodLink RX12 171 yX12_lookedPlace, Cond.instanceMethod yX12_lookedPlace, Cond.selects RX12 yX12_lookedPlace yX12_lookedPlace, Cond.initialized RX12, Cond.code yX12_lookedPlace cX12_lookedPlace 2 (some .int), Cond.fieldLink RX12 97 "LadleKingsModel" "highest" "I", Cond.methodLink RX12 165 yX12_looked, Cond.instanceMethod yX12_looked, Cond.selects RX12 yX12_looked yX12_looked, Cond.code yX12_looked cX12_looked 3 (some .int), Cond.fieldLink RX12 119 "LadleKingsModel" "fault" "I", Cond.fieldLink RX12 147 "LadleKingsModel" "sort" "I", Cond.fieldLink RX12 158 "LadleKingsModel" "value" "I", Cond.methodLink RX12 161 yX12_needs, Cond.instanceMethod yX12_needs, Cond.selects RX12 yX12_needs yX12_needs, Cond.code yX12_needs cX12_needs 3 none, Cond.fieldLink RX12 122 "LadleKingsModel" "from" "I", Cond.fieldLink RX12 125 "LadleKingsModel" "wrongAt" "I", Cond.methodLink RX12 115 yX12_in, Cond.static yX12_in, Cond.code yX12_in cX12_in 6 (some .boolean), Cond.methodLink RX12 168 yX12_nextToken, Cond.instanceMethod yX12_nextToken]
def wsX12_readPlace_r2 : List Cond := [Cond.selects RX12 yX12_nextToken yX12_nextToken, Cond.code yX12_nextToken cX12_nextToken 2 none, Cond.fieldLink RX12 128 "LadleKingsModel" "pos" "I", Cond.constantLong RX12 150 (97), Cond.constantLong RX12 152 (122), Cond.constantLong RX12 154 (48), Cond.constantLong RX12 156 (57), Cond.methodLink RX12 131 yX12_look, Cond.instanceMethod yX12_look, Cond.selects RX12 yX12_look yX12_look, Cond.code yX12_look cX12_look 2 (some .int), Cond.fieldLink RX12 110 "LadleKingsModel" "taped" "I", Cond.fieldLink RX12 32 "LadleKingsModel" "tape" "[I"]
def wsX12_readPlace : List Cond := Cond.code yX12_readPlace cX12_readPlace 2 (some .int) :: ((wsX12_readPlace_r1 ++ wsX12_readPlace_r2) ++ wsX120)
def wsX12_readPot_r1 : List Cond := [Cond.fieldLink RX12 119 "LadleKingsModel" "fault" "I", Cond.fieldLink RX12 147 "LadleKingsModel" "sort" "I", Cond.fieldLink RX12 23 "LadleKingsModel" "draft" "[I", Cond.fieldLink RX12 97 "LadleKingsModel" "highest" "I", Cond.methodLink RX12 161 yX12_needs, Cond.instanceMethod yX12_needs, Cond.selects RX12 yX12_needs yX12_needs, Cond.initialized RX12, Cond.code yX12_needs cX12_needs 3 none, Cond.fieldLink RX12 122 "LadleKingsModel" "from" "I", Cond.fieldLink RX12 125 "LadleKingsModel" "wrongAt" "I", Cond.methodLink RX12 165 yX12_looked, Cond.instanceMethod yX12_looked, Cond.selects RX12 yX12_looked yX12_looked, Cond.code yX12_looked cX12_looked 3 (some .int), Cond.fieldLink RX12 158 "LadleKingsModel" "value" "I", Cond.methodLink RX12 115 yX12_in, Cond.static yX12_in, Cond.code yX12_in cX12_in 6 (some .boolean), Cond.methodLink RX12 168 yX12_nextToken, Cond.instanceMethod yX12_nextToken, Cond.selects RX12 yX12_nextToken yX12_nextToken, Cond.code yX12_nextToken cX12_nextToken 2 none, Cond.fieldLink RX12 128 "LadleKingsModel" "pos" "I"]
def wsX12_readPot_r2 : List Cond := [Cond.constantLong RX12 150 (97), Cond.constantLong RX12 152 (122), Cond.constantLong RX12 154 (48), Cond.constantLong RX12 156 (57), Cond.methodLink RX12 131 yX12_look, Cond.instanceMethod yX12_look, Cond.selects RX12 yX12_look yX12_look, Cond.code yX12_look cX12_look 2 (some .int), Cond.fieldLink RX12 110 "LadleKingsModel" "taped" "I", Cond.fieldLink RX12 32 "LadleKingsModel" "tape" "[I"]
def wsX12_readPot : List Cond := Cond.code yX12_readPot cX12_readPot 4 none :: ((wsX12_readPot_r1 ++ wsX12_readPot_r2) ++ wsX120)
def wsX12_readFriend_r1 : List Cond := [Cond.fieldLink RX12 23 "LadleKingsModel" "draft" "[I", Cond.methodLink RX12 174 yX12_readPlace, Cond.instanceMethod yX12_readPlace, Cond.selects RX12 yX12_readPlace yX12_readPlace, Cond.initialized RX12, Cond.code yX12_readPlace cX12_readPlace 2 (some .int), Cond.methodLink RX12 171 yX12_lookedPlace, Cond.instanceMethod yX12_lookedPlace, Cond.selects RX12 yX12_lookedPlace yX12_lookedPlace, Cond.code yX12_lookedPlace cX12_lookedPlace 2 (some .int), Cond.fieldLink RX12 97 "LadleKingsModel" "highest" "I", Cond.methodLink RX12 165 yX12_looked, Cond.instanceMethod yX12_looked, Cond.selects RX12 yX12_looked yX12_looked, Cond.code yX12_looked cX12_looked 3 (some .int), Cond.fieldLink RX12 119 "LadleKingsModel" "fault" "I", Cond.fieldLink RX12 147 "LadleKingsModel" "sort" "I", Cond.fieldLink RX12 158 "LadleKingsModel" "value" "I", Cond.methodLink RX12 161 yX12_needs, Cond.instanceMethod yX12_needs, Cond.selects RX12 yX12_needs yX12_needs, Cond.code yX12_needs cX12_needs 3 none, Cond.fieldLink RX12 122 "LadleKingsModel" "from" "I", Cond.fieldLink RX12 125 "LadleKingsModel" "wrongAt" "I"]
def wsX12_readFriend_r2 : List Cond := [Cond.methodLink RX12 115 yX12_in, Cond.static yX12_in, Cond.code yX12_in cX12_in 6 (some .boolean), Cond.methodLink RX12 168 yX12_nextToken, Cond.instanceMethod yX12_nextToken, Cond.selects RX12 yX12_nextToken yX12_nextToken, Cond.code yX12_nextToken cX12_nextToken 2 none, Cond.fieldLink RX12 128 "LadleKingsModel" "pos" "I", Cond.constantLong RX12 150 (97), Cond.constantLong RX12 152 (122), Cond.constantLong RX12 154 (48), Cond.constantLong RX12 156 (57), Cond.methodLink RX12 131 yX12_look, Cond.instanceMethod yX12_look, Cond.selects RX12 yX12_look yX12_look, Cond.code yX12_look cX12_look 2 (some .int), Cond.fieldLink RX12 110 "LadleKingsModel" "taped" "I", Cond.fieldLink RX12 32 "LadleKingsModel" "tape" "[I"]
def wsX12_readFriend : List Cond := Cond.code yX12_readFriend cX12_readFriend 3 none :: ((wsX12_readFriend_r1 ++ wsX12_readFriend_r2) ++ wsX120)
def wsX12_readStir_r1 : List Cond := [Cond.fieldLink RX12 91 "LadleKingsModel" "dStirs" "I", Cond.fieldLink RX12 26 "LadleKingsModel" "dStir" "[I", Cond.fieldLink RX12 97 "LadleKingsModel" "highest" "I", Cond.methodLink RX12 177 yX12_readNumber, Cond.instanceMethod yX12_readNumber, Cond.selects RX12 yX12_readNumber yX12_readNumber, Cond.initialized RX12, Cond.code yX12_readNumber cX12_readNumber 4 (some .int), Cond.methodLink RX12 165 yX12_looked, Cond.instanceMethod yX12_looked, Cond.selects RX12 yX12_looked yX12_looked, Cond.code yX12_looked cX12_looked 3 (some .int), Cond.fieldLink RX12 119 "LadleKingsModel" "fault" "I", Cond.fieldLink RX12 147 "LadleKingsModel" "sort" "I", Cond.fieldLink RX12 158 "LadleKingsModel" "value" "I", Cond.methodLink RX12 161 yX12_needs, Cond.instanceMethod yX12_needs, Cond.selects RX12 yX12_needs yX12_needs, Cond.code yX12_needs cX12_needs 3 none, Cond.fieldLink RX12 122 "LadleKingsModel" "from" "I", Cond.fieldLink RX12 125 "LadleKingsModel" "wrongAt" "I", Cond.methodLink RX12 115 yX12_in, Cond.static yX12_in, Cond.code yX12_in cX12_in 6 (some .boolean)]
def wsX12_readStir_r2 : List Cond := [Cond.methodLink RX12 168 yX12_nextToken, Cond.instanceMethod yX12_nextToken, Cond.selects RX12 yX12_nextToken yX12_nextToken, Cond.code yX12_nextToken cX12_nextToken 2 none, Cond.fieldLink RX12 128 "LadleKingsModel" "pos" "I", Cond.constantLong RX12 150 (97), Cond.constantLong RX12 152 (122), Cond.constantLong RX12 154 (48), Cond.constantLong RX12 156 (57), Cond.methodLink RX12 131 yX12_look, Cond.instanceMethod yX12_look, Cond.selects RX12 yX12_look yX12_look, Cond.code yX12_look cX12_look 2 (some .int), Cond.fieldLink RX12 110 "LadleKingsModel" "taped" "I", Cond.fieldLink RX12 32 "LadleKingsModel" "tape" "[I", Cond.methodLink RX12 174 yX12_readPlace, Cond.instanceMethod yX12_readPlace, Cond.selects RX12 yX12_readPlace yX12_readPlace, Cond.code yX12_readPlace cX12_readPlace 2 (some .int), Cond.methodLink RX12 171 yX12_lookedPlace, Cond.instanceMethod yX12_lookedPlace, Cond.selects RX12 yX12_lookedPlace yX12_lookedPlace, Cond.code yX12_lookedPlace cX12_lookedPlace 2 (some .int)]
def wsX12_readStir : List Cond := Cond.code yX12_readStir cX12_readStir 4 none :: ((wsX12_readStir_r1 ++ wsX12_readStir_r2) ++ wsX120)
def wsX12_readLineOf_r1 : List Cond := [Cond.fieldLink RX12 87 "LadleKingsModel" "dSeats" "I", Cond.fieldLink RX12 23 "LadleKingsModel" "draft" "[I", Cond.fieldLink RX12 29 "LadleKingsModel" "dNeed" "[I", Cond.methodLink RX12 177 yX12_readNumber, Cond.instanceMethod yX12_readNumber, Cond.selects RX12 yX12_readNumber yX12_readNumber, Cond.initialized RX12, Cond.code yX12_readNumber cX12_readNumber 4 (some .int), Cond.methodLink RX12 165 yX12_looked, Cond.instanceMethod yX12_looked, Cond.selects RX12 yX12_looked yX12_looked, Cond.code yX12_looked cX12_looked 3 (some .int), Cond.fieldLink RX12 119 "LadleKingsModel" "fault" "I", Cond.fieldLink RX12 147 "LadleKingsModel" "sort" "I", Cond.fieldLink RX12 158 "LadleKingsModel" "value" "I", Cond.methodLink RX12 161 yX12_needs, Cond.instanceMethod yX12_needs, Cond.selects RX12 yX12_needs yX12_needs, Cond.code yX12_needs cX12_needs 3 none, Cond.fieldLink RX12 122 "LadleKingsModel" "from" "I", Cond.fieldLink RX12 125 "LadleKingsModel" "wrongAt" "I", Cond.methodLink RX12 115 yX12_in, Cond.static yX12_in, Cond.code yX12_in cX12_in 6 (some .boolean)]
def wsX12_readLineOf_r2 : List Cond := [Cond.methodLink RX12 168 yX12_nextToken, Cond.instanceMethod yX12_nextToken, Cond.selects RX12 yX12_nextToken yX12_nextToken, Cond.code yX12_nextToken cX12_nextToken 2 none, Cond.fieldLink RX12 128 "LadleKingsModel" "pos" "I", Cond.constantLong RX12 150 (97), Cond.constantLong RX12 152 (122), Cond.constantLong RX12 154 (48), Cond.constantLong RX12 156 (57), Cond.methodLink RX12 131 yX12_look, Cond.instanceMethod yX12_look, Cond.selects RX12 yX12_look yX12_look, Cond.code yX12_look cX12_look 2 (some .int), Cond.fieldLink RX12 110 "LadleKingsModel" "taped" "I", Cond.fieldLink RX12 32 "LadleKingsModel" "tape" "[I", Cond.methodLink RX12 180 yX12_readPot, Cond.instanceMethod yX12_readPot, Cond.selects RX12 yX12_readPot yX12_readPot, Cond.code yX12_readPot cX12_readPot 4 none, Cond.fieldLink RX12 97 "LadleKingsModel" "highest" "I", Cond.methodLink RX12 174 yX12_readPlace, Cond.instanceMethod yX12_readPlace, Cond.selects RX12 yX12_readPlace yX12_readPlace, Cond.code yX12_readPlace cX12_readPlace 2 (some .int)]
def wsX12_readLineOf_r3 : List Cond := [Cond.methodLink RX12 171 yX12_lookedPlace, Cond.instanceMethod yX12_lookedPlace, Cond.selects RX12 yX12_lookedPlace yX12_lookedPlace, Cond.code yX12_lookedPlace cX12_lookedPlace 2 (some .int), Cond.methodLink RX12 183 yX12_readFriend, Cond.instanceMethod yX12_readFriend, Cond.selects RX12 yX12_readFriend yX12_readFriend, Cond.code yX12_readFriend cX12_readFriend 3 none, Cond.methodLink RX12 186 yX12_readStir, Cond.instanceMethod yX12_readStir, Cond.selects RX12 yX12_readStir yX12_readStir, Cond.code yX12_readStir cX12_readStir 4 none, Cond.fieldLink RX12 91 "LadleKingsModel" "dStirs" "I", Cond.fieldLink RX12 26 "LadleKingsModel" "dStir" "[I"]
def wsX12_readLineOf : List Cond := Cond.code yX12_readLineOf cX12_readLineOf 3 none :: ((wsX12_readLineOf_r1 ++ (wsX12_readLineOf_r2 ++ wsX12_readLineOf_r3)) ++ wsX120)
def wsX12_readLine_r1 : List Cond := [Cond.fieldLink RX12 147 "LadleKingsModel" "sort" "I", Cond.fieldLink RX12 91 "LadleKingsModel" "dStirs" "I", Cond.fieldLink RX12 119 "LadleKingsModel" "fault" "I", Cond.constantLong RX12 193 (4), Cond.constantLong RX12 195 (7), Cond.fieldLink RX12 94 "LadleKingsModel" "told" "I", Cond.methodLink RX12 190 yX12_lineNow, Cond.instanceMethod yX12_lineNow, Cond.selects RX12 yX12_lineNow yX12_lineNow, Cond.initialized RX12, Cond.code yX12_lineNow cX12_lineNow 1 (some .int), Cond.methodLink RX12 135 yX12_is, Cond.instanceMethod yX12_is, Cond.selects RX12 yX12_is yX12_is, Cond.code yX12_is cX12_is 5 (some .boolean), Cond.fieldLink RX12 128 "LadleKingsModel" "pos" "I", Cond.fieldLink RX12 122 "LadleKingsModel" "from" "I", Cond.methodLink RX12 131 yX12_look, Cond.instanceMethod yX12_look, Cond.selects RX12 yX12_look yX12_look, Cond.code yX12_look cX12_look 2 (some .int), Cond.fieldLink RX12 110 "LadleKingsModel" "taped" "I", Cond.fieldLink RX12 32 "LadleKingsModel" "tape" "[I", Cond.methodLink RX12 139 yX12_ends]
def wsX12_readLine_r2 : List Cond := [Cond.instanceMethod yX12_ends, Cond.selects RX12 yX12_ends yX12_ends, Cond.code yX12_ends cX12_ends 4 (some .boolean), Cond.methodLink RX12 143 yX12_stirNow, Cond.instanceMethod yX12_stirNow, Cond.selects RX12 yX12_stirNow yX12_stirNow, Cond.code yX12_stirNow cX12_stirNow 1 (some .int), Cond.methodLink RX12 161 yX12_needs, Cond.instanceMethod yX12_needs, Cond.selects RX12 yX12_needs yX12_needs, Cond.code yX12_needs cX12_needs 3 none, Cond.fieldLink RX12 125 "LadleKingsModel" "wrongAt" "I", Cond.methodLink RX12 115 yX12_in, Cond.static yX12_in, Cond.code yX12_in cX12_in 6 (some .boolean), Cond.methodLink RX12 168 yX12_nextToken, Cond.instanceMethod yX12_nextToken, Cond.selects RX12 yX12_nextToken yX12_nextToken, Cond.code yX12_nextToken cX12_nextToken 2 none, Cond.constantLong RX12 150 (97), Cond.constantLong RX12 152 (122), Cond.constantLong RX12 154 (48), Cond.constantLong RX12 156 (57), Cond.fieldLink RX12 158 "LadleKingsModel" "value" "I"]
def wsX12_readLine_r3 : List Cond := [Cond.methodLink RX12 197 yX12_readLineOf, Cond.instanceMethod yX12_readLineOf, Cond.selects RX12 yX12_readLineOf yX12_readLineOf, Cond.code yX12_readLineOf cX12_readLineOf 3 none, Cond.fieldLink RX12 87 "LadleKingsModel" "dSeats" "I", Cond.fieldLink RX12 23 "LadleKingsModel" "draft" "[I", Cond.fieldLink RX12 29 "LadleKingsModel" "dNeed" "[I", Cond.methodLink RX12 177 yX12_readNumber, Cond.instanceMethod yX12_readNumber, Cond.selects RX12 yX12_readNumber yX12_readNumber, Cond.code yX12_readNumber cX12_readNumber 4 (some .int), Cond.methodLink RX12 165 yX12_looked, Cond.instanceMethod yX12_looked, Cond.selects RX12 yX12_looked yX12_looked, Cond.code yX12_looked cX12_looked 3 (some .int), Cond.methodLink RX12 180 yX12_readPot, Cond.instanceMethod yX12_readPot, Cond.selects RX12 yX12_readPot yX12_readPot, Cond.code yX12_readPot cX12_readPot 4 none, Cond.fieldLink RX12 97 "LadleKingsModel" "highest" "I", Cond.methodLink RX12 174 yX12_readPlace, Cond.instanceMethod yX12_readPlace, Cond.selects RX12 yX12_readPlace yX12_readPlace, Cond.code yX12_readPlace cX12_readPlace 2 (some .int)]
def wsX12_readLine_r4 : List Cond := [Cond.methodLink RX12 171 yX12_lookedPlace, Cond.instanceMethod yX12_lookedPlace, Cond.selects RX12 yX12_lookedPlace yX12_lookedPlace, Cond.code yX12_lookedPlace cX12_lookedPlace 2 (some .int), Cond.methodLink RX12 183 yX12_readFriend, Cond.instanceMethod yX12_readFriend, Cond.selects RX12 yX12_readFriend yX12_readFriend, Cond.code yX12_readFriend cX12_readFriend 3 none, Cond.methodLink RX12 186 yX12_readStir, Cond.instanceMethod yX12_readStir, Cond.selects RX12 yX12_readStir yX12_readStir, Cond.code yX12_readStir cX12_readStir 4 none, Cond.fieldLink RX12 26 "LadleKingsModel" "dStir" "[I"]
def wsX12_readLine : List Cond := Cond.code yX12_readLine cX12_readLine 2 none :: ((wsX12_readLine_r1 ++ (wsX12_readLine_r2 ++ (wsX12_readLine_r3 ++ wsX12_readLine_r4))) ++ wsX120)
def wsX12_text_r1 : List Cond := [Cond.fieldLink RX12 119 "LadleKingsModel" "fault" "I", Cond.fieldLink RX12 128 "LadleKingsModel" "pos" "I", Cond.fieldLink RX12 147 "LadleKingsModel" "sort" "I", Cond.fieldLink RX12 97 "LadleKingsModel" "highest" "I", Cond.fieldLink RX12 87 "LadleKingsModel" "dSeats" "I", Cond.fieldLink RX12 110 "LadleKingsModel" "taped" "I", Cond.fieldLink RX12 125 "LadleKingsModel" "wrongAt" "I", Cond.methodLink RX12 81 yX12_firstDraft, Cond.instanceMethod yX12_firstDraft, Cond.selects RX12 yX12_firstDraft yX12_firstDraft, Cond.initialized RX12, Cond.code yX12_firstDraft cX12_firstDraft 2 none, Cond.fieldLink RX12 23 "LadleKingsModel" "draft" "[I", Cond.fieldLink RX12 29 "LadleKingsModel" "dNeed" "[I", Cond.fieldLink RX12 91 "LadleKingsModel" "dStirs" "I", Cond.fieldLink RX12 94 "LadleKingsModel" "told" "I", Cond.methodLink RX12 168 yX12_nextToken, Cond.instanceMethod yX12_nextToken, Cond.selects RX12 yX12_nextToken yX12_nextToken, Cond.code yX12_nextToken cX12_nextToken 2 none, Cond.fieldLink RX12 122 "LadleKingsModel" "from" "I", Cond.constantLong RX12 150 (97), Cond.constantLong RX12 152 (122), Cond.constantLong RX12 154 (48)]
def wsX12_text_r2 : List Cond := [Cond.constantLong RX12 156 (57), Cond.fieldLink RX12 158 "LadleKingsModel" "value" "I", Cond.methodLink RX12 131 yX12_look, Cond.instanceMethod yX12_look, Cond.selects RX12 yX12_look yX12_look, Cond.code yX12_look cX12_look 2 (some .int), Cond.fieldLink RX12 32 "LadleKingsModel" "tape" "[I", Cond.methodLink RX12 115 yX12_in, Cond.static yX12_in, Cond.code yX12_in cX12_in 6 (some .boolean), Cond.methodLink RX12 161 yX12_needs, Cond.instanceMethod yX12_needs, Cond.selects RX12 yX12_needs yX12_needs, Cond.code yX12_needs cX12_needs 3 none, Cond.methodLink RX12 200 yX12_readLine, Cond.instanceMethod yX12_readLine, Cond.selects RX12 yX12_readLine yX12_readLine, Cond.code yX12_readLine cX12_readLine 2 none, Cond.constantLong RX12 193 (4), Cond.constantLong RX12 195 (7), Cond.methodLink RX12 190 yX12_lineNow, Cond.instanceMethod yX12_lineNow, Cond.selects RX12 yX12_lineNow yX12_lineNow, Cond.code yX12_lineNow cX12_lineNow 1 (some .int)]
def wsX12_text_r3 : List Cond := [Cond.methodLink RX12 135 yX12_is, Cond.instanceMethod yX12_is, Cond.selects RX12 yX12_is yX12_is, Cond.code yX12_is cX12_is 5 (some .boolean), Cond.methodLink RX12 139 yX12_ends, Cond.instanceMethod yX12_ends, Cond.selects RX12 yX12_ends yX12_ends, Cond.code yX12_ends cX12_ends 4 (some .boolean), Cond.methodLink RX12 143 yX12_stirNow, Cond.instanceMethod yX12_stirNow, Cond.selects RX12 yX12_stirNow yX12_stirNow, Cond.code yX12_stirNow cX12_stirNow 1 (some .int), Cond.methodLink RX12 197 yX12_readLineOf, Cond.instanceMethod yX12_readLineOf, Cond.selects RX12 yX12_readLineOf yX12_readLineOf, Cond.code yX12_readLineOf cX12_readLineOf 3 none, Cond.methodLink RX12 177 yX12_readNumber, Cond.instanceMethod yX12_readNumber, Cond.selects RX12 yX12_readNumber yX12_readNumber, Cond.code yX12_readNumber cX12_readNumber 4 (some .int), Cond.methodLink RX12 165 yX12_looked, Cond.instanceMethod yX12_looked, Cond.selects RX12 yX12_looked yX12_looked, Cond.code yX12_looked cX12_looked 3 (some .int)]
def wsX12_text_r4 : List Cond := [Cond.methodLink RX12 180 yX12_readPot, Cond.instanceMethod yX12_readPot, Cond.selects RX12 yX12_readPot yX12_readPot, Cond.code yX12_readPot cX12_readPot 4 none, Cond.methodLink RX12 174 yX12_readPlace, Cond.instanceMethod yX12_readPlace, Cond.selects RX12 yX12_readPlace yX12_readPlace, Cond.code yX12_readPlace cX12_readPlace 2 (some .int), Cond.methodLink RX12 171 yX12_lookedPlace, Cond.instanceMethod yX12_lookedPlace, Cond.selects RX12 yX12_lookedPlace yX12_lookedPlace, Cond.code yX12_lookedPlace cX12_lookedPlace 2 (some .int), Cond.methodLink RX12 183 yX12_readFriend, Cond.instanceMethod yX12_readFriend, Cond.selects RX12 yX12_readFriend yX12_readFriend, Cond.code yX12_readFriend cX12_readFriend 3 none, Cond.methodLink RX12 186 yX12_readStir, Cond.instanceMethod yX12_readStir, Cond.selects RX12 yX12_readStir yX12_readStir, Cond.code yX12_readStir cX12_readStir 4 none, Cond.fieldLink RX12 26 "LadleKingsModel" "dStir" "[I", Cond.methodLink RX12 84 yX12_keepDraft, Cond.instanceMethod yX12_keepDraft, Cond.selects RX12 yX12_keepDraft yX12_keepDraft]
def wsX12_text_r5 : List Cond := [Cond.code yX12_keepDraft cX12_keepDraft 3 none, Cond.fieldLink RX12 7 "LadleKingsModel" "st" "[I", Cond.fieldLink RX12 100 "LadleKingsModel" "seats" "I", Cond.fieldLink RX12 103 "LadleKingsModel" "stirs" "I", Cond.fieldLink RX12 20 "LadleKingsModel" "need" "[I", Cond.fieldLink RX12 17 "LadleKingsModel" "brings" "[I", Cond.fieldLink RX12 13 "LadleKingsModel" "isKept" "[Z", Cond.methodLink RX12 106 yX12_broughtTo, Cond.instanceMethod yX12_broughtTo, Cond.selects RX12 yX12_broughtTo yX12_broughtTo, Cond.code yX12_broughtTo cX12_broughtTo 5 (some .int)]
def wsX12_text : List Cond := Cond.code yX12_text cX12_text 2 (some .int) :: ((wsX12_text_r1 ++ (wsX12_text_r2 ++ (wsX12_text_r3 ++ (wsX12_text_r4 ++ wsX12_text_r5)))) ++ wsX120)
def wsX12_fault : List Cond := Cond.code yX12_fault cX12_fault 1 (some .int) :: ([Cond.fieldLink RX12 119 "LadleKingsModel" "fault" "I"] ++ wsX120)
def wsX12_isSeat : List Cond := Cond.code yX12_isSeat cX12_isSeat 2 (some .boolean) :: ([Cond.fieldLink RX12 100 "LadleKingsModel" "seats" "I", Cond.methodLink RX12 115 yX12_in, Cond.static yX12_in, Cond.initialized RX12, Cond.code yX12_in cX12_in 6 (some .boolean)] ++ wsX120)
def wsX12_isStir : List Cond := Cond.code yX12_isStir cX12_isStir 2 (some .boolean) :: ([Cond.fieldLink RX12 103 "LadleKingsModel" "stirs" "I", Cond.methodLink RX12 115 yX12_in, Cond.static yX12_in, Cond.initialized RX12, Cond.code yX12_in cX12_in 6 (some .boolean)] ++ wsX120)
def wsX12_rule : List Cond := Cond.code yX12_rule cX12_rule 2 (some .int) :: ([Cond.fieldLink RX12 100 "LadleKingsModel" "seats" "I", Cond.fieldLink RX12 103 "LadleKingsModel" "stirs" "I", Cond.fieldLink RX12 7 "LadleKingsModel" "st" "[I"] ++ wsX120)
def wsX12_pot : List Cond := Cond.code yX12_pot cX12_pot 2 (some .int) :: ([Cond.fieldLink RX12 7 "LadleKingsModel" "st" "[I", Cond.methodLink RX12 203 yX12_isSeat, Cond.instanceMethod yX12_isSeat, Cond.selects RX12 yX12_isSeat yX12_isSeat, Cond.initialized RX12, Cond.code yX12_isSeat cX12_isSeat 2 (some .boolean), Cond.fieldLink RX12 100 "LadleKingsModel" "seats" "I", Cond.methodLink RX12 115 yX12_in, Cond.static yX12_in, Cond.code yX12_in cX12_in 6 (some .boolean)] ++ wsX120)
def wsX12_one : List Cond := Cond.code yX12_one cX12_one 3 (some .int) :: ([Cond.fieldLink RX12 7 "LadleKingsModel" "st" "[I", Cond.fieldLink RX12 20 "LadleKingsModel" "need" "[I", Cond.methodLink RX12 203 yX12_isSeat, Cond.instanceMethod yX12_isSeat, Cond.selects RX12 yX12_isSeat yX12_isSeat, Cond.initialized RX12, Cond.code yX12_isSeat cX12_isSeat 2 (some .boolean), Cond.fieldLink RX12 100 "LadleKingsModel" "seats" "I", Cond.methodLink RX12 115 yX12_in, Cond.static yX12_in, Cond.code yX12_in cX12_in 6 (some .boolean)] ++ wsX120)
def wsX12_stir : List Cond := Cond.code yX12_stir cX12_stir 3 (some .int) :: ([Cond.fieldLink RX12 17 "LadleKingsModel" "brings" "[I", Cond.methodLink RX12 207 yX12_isStir, Cond.instanceMethod yX12_isStir, Cond.selects RX12 yX12_isStir yX12_isStir, Cond.initialized RX12, Cond.code yX12_isStir cX12_isStir 2 (some .boolean), Cond.fieldLink RX12 103 "LadleKingsModel" "stirs" "I", Cond.methodLink RX12 115 yX12_in, Cond.static yX12_in, Cond.code yX12_in cX12_in 6 (some .boolean), Cond.methodLink RX12 203 yX12_isSeat, Cond.instanceMethod yX12_isSeat, Cond.selects RX12 yX12_isSeat yX12_isSeat, Cond.code yX12_isSeat cX12_isSeat 2 (some .boolean), Cond.fieldLink RX12 100 "LadleKingsModel" "seats" "I"] ++ wsX120)
def wsX12_befriend : List Cond := Cond.code yX12_befriend cX12_befriend 5 (some .int) :: ([Cond.fieldLink RX12 7 "LadleKingsModel" "st" "[I", Cond.methodLink RX12 203 yX12_isSeat, Cond.instanceMethod yX12_isSeat, Cond.selects RX12 yX12_isSeat yX12_isSeat, Cond.initialized RX12, Cond.code yX12_isSeat cX12_isSeat 2 (some .boolean), Cond.fieldLink RX12 100 "LadleKingsModel" "seats" "I", Cond.methodLink RX12 115 yX12_in, Cond.static yX12_in, Cond.code yX12_in cX12_in 6 (some .boolean)] ++ wsX120)
def wsX12_spoon : List Cond := Cond.code yX12_spoon cX12_spoon 4 (some .int) :: ([Cond.constantLong RX12 210 (9), Cond.fieldLink RX12 7 "LadleKingsModel" "st" "[I", Cond.methodLink RX12 203 yX12_isSeat, Cond.instanceMethod yX12_isSeat, Cond.selects RX12 yX12_isSeat yX12_isSeat, Cond.initialized RX12, Cond.code yX12_isSeat cX12_isSeat 2 (some .boolean), Cond.fieldLink RX12 100 "LadleKingsModel" "seats" "I", Cond.methodLink RX12 115 yX12_in, Cond.static yX12_in, Cond.code yX12_in cX12_in 6 (some .boolean)] ++ wsX120)
def wsX12_crown : List Cond := Cond.code yX12_crown cX12_crown 3 (some .int) :: ([Cond.fieldLink RX12 7 "LadleKingsModel" "st" "[I", Cond.methodLink RX12 203 yX12_isSeat, Cond.instanceMethod yX12_isSeat, Cond.selects RX12 yX12_isSeat yX12_isSeat, Cond.initialized RX12, Cond.code yX12_isSeat cX12_isSeat 2 (some .boolean), Cond.fieldLink RX12 100 "LadleKingsModel" "seats" "I", Cond.methodLink RX12 115 yX12_in, Cond.static yX12_in, Cond.code yX12_in cX12_in 6 (some .boolean)] ++ wsX120)
def wsX12_fill : List Cond := Cond.code yX12_fill cX12_fill 4 (some .int) :: ([Cond.constantLong RX12 210 (9), Cond.fieldLink RX12 7 "LadleKingsModel" "st" "[I", Cond.methodLink RX12 203 yX12_isSeat, Cond.instanceMethod yX12_isSeat, Cond.selects RX12 yX12_isSeat yX12_isSeat, Cond.initialized RX12, Cond.code yX12_isSeat cX12_isSeat 2 (some .boolean), Cond.fieldLink RX12 100 "LadleKingsModel" "seats" "I", Cond.methodLink RX12 115 yX12_in, Cond.static yX12_in, Cond.code yX12_in cX12_in 6 (some .boolean)] ++ wsX120)
def wsX12_findPlaces : List Cond := Cond.code yX12_findPlaces cX12_findPlaces 7 none :: ([Cond.fieldLink RX12 100 "LadleKingsModel" "seats" "I", Cond.fieldLink RX12 7 "LadleKingsModel" "st" "[I", Cond.fieldLink RX12 35 "LadleKingsModel" "places" "[I", Cond.methodLink RX12 212 yX12_flag, Cond.static yX12_flag, Cond.initialized RX12, Cond.code yX12_flag cX12_flag 1 (some .int)] ++ wsX120)
def wsX12_cameFrom : List Cond := Cond.code yX12_cameFrom cX12_cameFrom 4 (some .int) :: ([Cond.fieldLink RX12 17 "LadleKingsModel" "brings" "[I"] ++ wsX120)
def wsX12_nextBy : List Cond := Cond.code yX12_nextBy cX12_nextBy 5 (some .int) :: ([Cond.fieldLink RX12 35 "LadleKingsModel" "places" "[I", Cond.fieldLink RX12 17 "LadleKingsModel" "brings" "[I", Cond.methodLink RX12 216 yX12_findPlaces, Cond.instanceMethod yX12_findPlaces, Cond.selects RX12 yX12_findPlaces yX12_findPlaces, Cond.initialized RX12, Cond.code yX12_findPlaces cX12_findPlaces 7 none, Cond.fieldLink RX12 100 "LadleKingsModel" "seats" "I", Cond.fieldLink RX12 7 "LadleKingsModel" "st" "[I", Cond.methodLink RX12 212 yX12_flag, Cond.static yX12_flag, Cond.code yX12_flag cX12_flag 1 (some .int)] ++ wsX120)
def wsX12_bowl_r1 : List Cond := [Cond.fieldLink RX12 7 "LadleKingsModel" "st" "[I", Cond.fieldLink RX12 35 "LadleKingsModel" "places" "[I", Cond.methodLink RX12 203 yX12_isSeat, Cond.instanceMethod yX12_isSeat, Cond.selects RX12 yX12_isSeat yX12_isSeat, Cond.initialized RX12, Cond.code yX12_isSeat cX12_isSeat 2 (some .boolean), Cond.fieldLink RX12 100 "LadleKingsModel" "seats" "I", Cond.methodLink RX12 115 yX12_in, Cond.static yX12_in, Cond.code yX12_in cX12_in 6 (some .boolean), Cond.methodLink RX12 207 yX12_isStir, Cond.instanceMethod yX12_isStir, Cond.selects RX12 yX12_isStir yX12_isStir, Cond.code yX12_isStir cX12_isStir 2 (some .boolean), Cond.fieldLink RX12 103 "LadleKingsModel" "stirs" "I", Cond.methodLink RX12 216 yX12_findPlaces, Cond.instanceMethod yX12_findPlaces, Cond.selects RX12 yX12_findPlaces yX12_findPlaces, Cond.code yX12_findPlaces cX12_findPlaces 7 none, Cond.methodLink RX12 212 yX12_flag, Cond.static yX12_flag, Cond.code yX12_flag cX12_flag 1 (some .int), Cond.methodLink RX12 219 yX12_cameFrom]
def wsX12_bowl_r2 : List Cond := [Cond.instanceMethod yX12_cameFrom, Cond.selects RX12 yX12_cameFrom yX12_cameFrom, Cond.code yX12_cameFrom cX12_cameFrom 4 (some .int), Cond.fieldLink RX12 17 "LadleKingsModel" "brings" "[I"]
def wsX12_bowl : List Cond := Cond.code yX12_bowl cX12_bowl 4 (some .int) :: ((wsX12_bowl_r1 ++ wsX12_bowl_r2) ++ wsX120)
def wsX12_ladle : List Cond := Cond.code yX12_ladle cX12_ladle 4 (some .int) :: ([Cond.fieldLink RX12 35 "LadleKingsModel" "places" "[I", Cond.methodLink RX12 203 yX12_isSeat, Cond.instanceMethod yX12_isSeat, Cond.selects RX12 yX12_isSeat yX12_isSeat, Cond.initialized RX12, Cond.code yX12_isSeat cX12_isSeat 2 (some .boolean), Cond.fieldLink RX12 100 "LadleKingsModel" "seats" "I", Cond.methodLink RX12 115 yX12_in, Cond.static yX12_in, Cond.code yX12_in cX12_in 6 (some .boolean), Cond.methodLink RX12 207 yX12_isStir, Cond.instanceMethod yX12_isStir, Cond.selects RX12 yX12_isStir yX12_isStir, Cond.code yX12_isStir cX12_isStir 2 (some .boolean), Cond.fieldLink RX12 103 "LadleKingsModel" "stirs" "I", Cond.methodLink RX12 216 yX12_findPlaces, Cond.instanceMethod yX12_findPlaces, Cond.selects RX12 yX12_findPlaces yX12_findPlaces, Cond.code yX12_findPlaces cX12_findPlaces 7 none, Cond.fieldLink RX12 7 "LadleKingsModel" "st" "[I", Cond.methodLink RX12 212 yX12_flag, Cond.static yX12_flag, Cond.code yX12_flag cX12_flag 1 (some .int)] ++ wsX120)
def wsX12_next_r1 : List Cond := [Cond.fieldLink RX12 7 "LadleKingsModel" "st" "[I", Cond.methodLink RX12 203 yX12_isSeat, Cond.instanceMethod yX12_isSeat, Cond.selects RX12 yX12_isSeat yX12_isSeat, Cond.initialized RX12, Cond.code yX12_isSeat cX12_isSeat 2 (some .boolean), Cond.fieldLink RX12 100 "LadleKingsModel" "seats" "I", Cond.methodLink RX12 115 yX12_in, Cond.static yX12_in, Cond.code yX12_in cX12_in 6 (some .boolean), Cond.methodLink RX12 207 yX12_isStir, Cond.instanceMethod yX12_isStir, Cond.selects RX12 yX12_isStir yX12_isStir, Cond.code yX12_isStir cX12_isStir 2 (some .boolean), Cond.fieldLink RX12 103 "LadleKingsModel" "stirs" "I", Cond.methodLink RX12 222 yX12_nextBy, Cond.instanceMethod yX12_nextBy, Cond.selects RX12 yX12_nextBy yX12_nextBy, Cond.code yX12_nextBy cX12_nextBy 5 (some .int), Cond.fieldLink RX12 35 "LadleKingsModel" "places" "[I", Cond.fieldLink RX12 17 "LadleKingsModel" "brings" "[I", Cond.methodLink RX12 216 yX12_findPlaces, Cond.instanceMethod yX12_findPlaces, Cond.selects RX12 yX12_findPlaces yX12_findPlaces]
def wsX12_next_r2 : List Cond := [Cond.code yX12_findPlaces cX12_findPlaces 7 none, Cond.methodLink RX12 212 yX12_flag, Cond.static yX12_flag, Cond.code yX12_flag cX12_flag 1 (some .int)]
def wsX12_next : List Cond := Cond.code yX12_next cX12_next 3 (some .int) :: ((wsX12_next_r1 ++ wsX12_next_r2) ++ wsX120)
def wsX12_goesDay : List Cond := Cond.code yX12_goesDay cX12_goesDay 4 none :: ([Cond.fieldLink RX12 7 "LadleKingsModel" "st" "[I", Cond.fieldLink RX12 100 "LadleKingsModel" "seats" "I", Cond.fieldLink RX12 38 "LadleKingsModel" "stirred" "[I", Cond.fieldLink RX12 17 "LadleKingsModel" "brings" "[I", Cond.fieldLink RX12 35 "LadleKingsModel" "places" "[I", Cond.methodLink RX12 222 yX12_nextBy, Cond.instanceMethod yX12_nextBy, Cond.selects RX12 yX12_nextBy yX12_nextBy, Cond.initialized RX12, Cond.code yX12_nextBy cX12_nextBy 5 (some .int), Cond.methodLink RX12 216 yX12_findPlaces, Cond.instanceMethod yX12_findPlaces, Cond.selects RX12 yX12_findPlaces yX12_findPlaces, Cond.code yX12_findPlaces cX12_findPlaces 7 none, Cond.methodLink RX12 212 yX12_flag, Cond.static yX12_flag, Cond.code yX12_flag cX12_flag 1 (some .int)] ++ wsX120)
def wsX12_day_r1 : List Cond := [Cond.fieldLink RX12 7 "LadleKingsModel" "st" "[I", Cond.methodLink RX12 207 yX12_isStir, Cond.instanceMethod yX12_isStir, Cond.selects RX12 yX12_isStir yX12_isStir, Cond.initialized RX12, Cond.code yX12_isStir cX12_isStir 2 (some .boolean), Cond.fieldLink RX12 103 "LadleKingsModel" "stirs" "I", Cond.methodLink RX12 115 yX12_in, Cond.static yX12_in, Cond.code yX12_in cX12_in 6 (some .boolean), Cond.methodLink RX12 226 yX12_goesDay, Cond.instanceMethod yX12_goesDay, Cond.selects RX12 yX12_goesDay yX12_goesDay, Cond.code yX12_goesDay cX12_goesDay 4 none, Cond.fieldLink RX12 100 "LadleKingsModel" "seats" "I", Cond.fieldLink RX12 38 "LadleKingsModel" "stirred" "[I", Cond.fieldLink RX12 17 "LadleKingsModel" "brings" "[I", Cond.fieldLink RX12 35 "LadleKingsModel" "places" "[I", Cond.methodLink RX12 222 yX12_nextBy, Cond.instanceMethod yX12_nextBy, Cond.selects RX12 yX12_nextBy yX12_nextBy, Cond.code yX12_nextBy cX12_nextBy 5 (some .int), Cond.methodLink RX12 216 yX12_findPlaces, Cond.instanceMethod yX12_findPlaces]
def wsX12_day_r2 : List Cond := [Cond.selects RX12 yX12_findPlaces yX12_findPlaces, Cond.code yX12_findPlaces cX12_findPlaces 7 none, Cond.methodLink RX12 212 yX12_flag, Cond.static yX12_flag, Cond.code yX12_flag cX12_flag 1 (some .int)]
def wsX12_day : List Cond := Cond.code yX12_day cX12_day 2 (some .int) :: ((wsX12_day_r1 ++ wsX12_day_r2) ++ wsX120)
def wsX12_hungry : List Cond := Cond.code yX12_hungry cX12_hungry 3 (some .int) :: ([Cond.fieldLink RX12 100 "LadleKingsModel" "seats" "I", Cond.fieldLink RX12 7 "LadleKingsModel" "st" "[I", Cond.fieldLink RX12 20 "LadleKingsModel" "need" "[I", Cond.methodLink RX12 212 yX12_flag, Cond.static yX12_flag, Cond.initialized RX12, Cond.code yX12_flag cX12_flag 1 (some .int)] ++ wsX120)
def wsX12_common : List Cond := Cond.code yX12_common cX12_common 10 (some .long) :: ([])
def wsX12_lowest : List Cond := Cond.code yX12_lowest cX12_lowest 7 (some .long) :: ([Cond.methodLink RX12 229 yX12_common, Cond.static yX12_common, Cond.initialized RX12, Cond.code yX12_common cX12_common 10 (some .long)])
def wsX12_power : List Cond := Cond.code yX12_power cX12_power 7 (some .long) :: ([])
def wsX12_firstWays : List Cond := Cond.code yX12_firstWays cX12_firstWays 2 none :: ([Cond.fieldLink RX12 41 "LadleKingsModel" "ways" "[J", Cond.fieldLink RX12 7 "LadleKingsModel" "st" "[I"] ++ wsX120)
def wsX12_then : List Cond := Cond.code yX12_then cX12_then 3 (some .int) :: ([Cond.fieldLink RX12 17 "LadleKingsModel" "brings" "[I", Cond.methodLink RX12 222 yX12_nextBy, Cond.instanceMethod yX12_nextBy, Cond.selects RX12 yX12_nextBy yX12_nextBy, Cond.initialized RX12, Cond.code yX12_nextBy cX12_nextBy 5 (some .int), Cond.fieldLink RX12 35 "LadleKingsModel" "places" "[I", Cond.methodLink RX12 216 yX12_findPlaces, Cond.instanceMethod yX12_findPlaces, Cond.selects RX12 yX12_findPlaces yX12_findPlaces, Cond.code yX12_findPlaces cX12_findPlaces 7 none, Cond.fieldLink RX12 100 "LadleKingsModel" "seats" "I", Cond.fieldLink RX12 7 "LadleKingsModel" "st" "[I", Cond.methodLink RX12 212 yX12_flag, Cond.static yX12_flag, Cond.code yX12_flag cX12_flag 1 (some .int)] ++ wsX120)
def wsX12_nextWays : List Cond := Cond.code yX12_nextWays cX12_nextWays 5 none :: ([Cond.fieldLink RX12 45 "LadleKingsModel" "waysThen" "[J", Cond.fieldLink RX12 103 "LadleKingsModel" "stirs" "I", Cond.fieldLink RX12 41 "LadleKingsModel" "ways" "[J", Cond.methodLink RX12 233 yX12_then, Cond.instanceMethod yX12_then, Cond.selects RX12 yX12_then yX12_then, Cond.initialized RX12, Cond.code yX12_then cX12_then 3 (some .int), Cond.fieldLink RX12 17 "LadleKingsModel" "brings" "[I", Cond.methodLink RX12 222 yX12_nextBy, Cond.instanceMethod yX12_nextBy, Cond.selects RX12 yX12_nextBy yX12_nextBy, Cond.code yX12_nextBy cX12_nextBy 5 (some .int), Cond.fieldLink RX12 35 "LadleKingsModel" "places" "[I", Cond.methodLink RX12 216 yX12_findPlaces, Cond.instanceMethod yX12_findPlaces, Cond.selects RX12 yX12_findPlaces yX12_findPlaces, Cond.code yX12_findPlaces cX12_findPlaces 7 none, Cond.fieldLink RX12 100 "LadleKingsModel" "seats" "I", Cond.fieldLink RX12 7 "LadleKingsModel" "st" "[I", Cond.methodLink RX12 212 yX12_flag, Cond.static yX12_flag, Cond.code yX12_flag cX12_flag 1 (some .int)] ++ wsX120)
def wsX12_isTold : List Cond := Cond.code yX12_isTold cX12_isTold 1 (some .boolean) :: ([Cond.methodLink RX12 115 yX12_in, Cond.static yX12_in, Cond.initialized RX12, Cond.code yX12_in cX12_in 6 (some .boolean)])
def wsX12_chance_r1 : List Cond := [Cond.constantLong RX12 236 (10), Cond.constantLong RX12 241 (-1), Cond.fieldLink RX12 103 "LadleKingsModel" "stirs" "I", Cond.constantLong RX12 243 (-2), Cond.fieldLink RX12 41 "LadleKingsModel" "ways" "[J", Cond.methodLink RX12 203 yX12_isSeat, Cond.instanceMethod yX12_isSeat, Cond.selects RX12 yX12_isSeat yX12_isSeat, Cond.initialized RX12, Cond.code yX12_isSeat cX12_isSeat 2 (some .boolean), Cond.fieldLink RX12 100 "LadleKingsModel" "seats" "I", Cond.methodLink RX12 115 yX12_in, Cond.static yX12_in, Cond.code yX12_in cX12_in 6 (some .boolean), Cond.methodLink RX12 238 yX12_isTold, Cond.static yX12_isTold, Cond.code yX12_isTold cX12_isTold 1 (some .boolean), Cond.methodLink RX12 245 yX12_firstWays, Cond.instanceMethod yX12_firstWays, Cond.selects RX12 yX12_firstWays yX12_firstWays, Cond.code yX12_firstWays cX12_firstWays 2 none, Cond.fieldLink RX12 7 "LadleKingsModel" "st" "[I", Cond.methodLink RX12 248 yX12_nextWays, Cond.instanceMethod yX12_nextWays]
def wsX12_chance_r2 : List Cond := [Cond.selects RX12 yX12_nextWays yX12_nextWays, Cond.code yX12_nextWays cX12_nextWays 5 none, Cond.fieldLink RX12 45 "LadleKingsModel" "waysThen" "[J", Cond.methodLink RX12 233 yX12_then, Cond.instanceMethod yX12_then, Cond.selects RX12 yX12_then yX12_then, Cond.code yX12_then cX12_then 3 (some .int), Cond.fieldLink RX12 17 "LadleKingsModel" "brings" "[I", Cond.methodLink RX12 222 yX12_nextBy, Cond.instanceMethod yX12_nextBy, Cond.selects RX12 yX12_nextBy yX12_nextBy, Cond.code yX12_nextBy cX12_nextBy 5 (some .int), Cond.fieldLink RX12 35 "LadleKingsModel" "places" "[I", Cond.methodLink RX12 216 yX12_findPlaces, Cond.instanceMethod yX12_findPlaces, Cond.selects RX12 yX12_findPlaces yX12_findPlaces, Cond.code yX12_findPlaces cX12_findPlaces 7 none, Cond.methodLink RX12 212 yX12_flag, Cond.static yX12_flag, Cond.code yX12_flag cX12_flag 1 (some .int), Cond.methodLink RX12 252 yX12_power, Cond.instanceMethod yX12_power, Cond.selects RX12 yX12_power yX12_power, Cond.code yX12_power cX12_power 7 (some .long)]
def wsX12_chance_r3 : List Cond := [Cond.methodLink RX12 256 yX12_lowest, Cond.static yX12_lowest, Cond.code yX12_lowest cX12_lowest 7 (some .long), Cond.methodLink RX12 229 yX12_common, Cond.static yX12_common, Cond.code yX12_common cX12_common 10 (some .long)]
def wsX12_chance : List Cond := Cond.code yX12_chance cX12_chance 7 (some .long) :: ((wsX12_chance_r1 ++ (wsX12_chance_r2 ++ wsX12_chance_r3)) ++ wsX120)
def wsX12_lasts_r1 : List Cond := [Cond.constantLong RX12 236 (10), Cond.constantLong RX12 241 (-1), Cond.fieldLink RX12 103 "LadleKingsModel" "stirs" "I", Cond.constantLong RX12 243 (-2), Cond.fieldLink RX12 41 "LadleKingsModel" "ways" "[J", Cond.methodLink RX12 115 yX12_in, Cond.static yX12_in, Cond.initialized RX12, Cond.code yX12_in cX12_in 6 (some .boolean), Cond.methodLink RX12 238 yX12_isTold, Cond.static yX12_isTold, Cond.code yX12_isTold cX12_isTold 1 (some .boolean), Cond.methodLink RX12 245 yX12_firstWays, Cond.instanceMethod yX12_firstWays, Cond.selects RX12 yX12_firstWays yX12_firstWays, Cond.code yX12_firstWays cX12_firstWays 2 none, Cond.fieldLink RX12 7 "LadleKingsModel" "st" "[I", Cond.methodLink RX12 248 yX12_nextWays, Cond.instanceMethod yX12_nextWays, Cond.selects RX12 yX12_nextWays yX12_nextWays, Cond.code yX12_nextWays cX12_nextWays 5 none, Cond.fieldLink RX12 45 "LadleKingsModel" "waysThen" "[J", Cond.methodLink RX12 233 yX12_then, Cond.instanceMethod yX12_then]
def wsX12_lasts_r2 : List Cond := [Cond.selects RX12 yX12_then yX12_then, Cond.code yX12_then cX12_then 3 (some .int), Cond.fieldLink RX12 17 "LadleKingsModel" "brings" "[I", Cond.methodLink RX12 222 yX12_nextBy, Cond.instanceMethod yX12_nextBy, Cond.selects RX12 yX12_nextBy yX12_nextBy, Cond.code yX12_nextBy cX12_nextBy 5 (some .int), Cond.fieldLink RX12 35 "LadleKingsModel" "places" "[I", Cond.methodLink RX12 216 yX12_findPlaces, Cond.instanceMethod yX12_findPlaces, Cond.selects RX12 yX12_findPlaces yX12_findPlaces, Cond.code yX12_findPlaces cX12_findPlaces 7 none, Cond.fieldLink RX12 100 "LadleKingsModel" "seats" "I", Cond.methodLink RX12 212 yX12_flag, Cond.static yX12_flag, Cond.code yX12_flag cX12_flag 1 (some .int), Cond.methodLink RX12 252 yX12_power, Cond.instanceMethod yX12_power, Cond.selects RX12 yX12_power yX12_power, Cond.code yX12_power cX12_power 7 (some .long), Cond.methodLink RX12 256 yX12_lowest, Cond.static yX12_lowest, Cond.code yX12_lowest cX12_lowest 7 (some .long), Cond.methodLink RX12 229 yX12_common]
def wsX12_lasts_r3 : List Cond := [Cond.static yX12_common, Cond.code yX12_common cX12_common 10 (some .long)]
def wsX12_lasts : List Cond := Cond.code yX12_lasts cX12_lasts 6 (some .long) :: ((wsX12_lasts_r1 ++ (wsX12_lasts_r2 ++ wsX12_lasts_r3)) ++ wsX120)
def wsX12_longestFrom : List Cond := Cond.code yX12_longestFrom cX12_longestFrom 3 (some .int) :: ([Cond.fieldLink RX12 48 "LadleKingsModel" "stays" "[I"] ++ wsX120)
def wsX12_findStays_r1 : List Cond := [Cond.fieldLink RX12 48 "LadleKingsModel" "stays" "[I", Cond.fieldLink RX12 103 "LadleKingsModel" "stirs" "I", Cond.fieldLink RX12 100 "LadleKingsModel" "seats" "I", Cond.methodLink RX12 233 yX12_then, Cond.instanceMethod yX12_then, Cond.selects RX12 yX12_then yX12_then, Cond.initialized RX12, Cond.code yX12_then cX12_then 3 (some .int), Cond.fieldLink RX12 17 "LadleKingsModel" "brings" "[I", Cond.methodLink RX12 222 yX12_nextBy, Cond.instanceMethod yX12_nextBy, Cond.selects RX12 yX12_nextBy yX12_nextBy, Cond.code yX12_nextBy cX12_nextBy 5 (some .int), Cond.fieldLink RX12 35 "LadleKingsModel" "places" "[I", Cond.methodLink RX12 216 yX12_findPlaces, Cond.instanceMethod yX12_findPlaces, Cond.selects RX12 yX12_findPlaces yX12_findPlaces, Cond.code yX12_findPlaces cX12_findPlaces 7 none, Cond.fieldLink RX12 7 "LadleKingsModel" "st" "[I", Cond.methodLink RX12 212 yX12_flag, Cond.static yX12_flag, Cond.code yX12_flag cX12_flag 1 (some .int), Cond.methodLink RX12 260 yX12_longestFrom, Cond.instanceMethod yX12_longestFrom]
def wsX12_findStays_r2 : List Cond := [Cond.selects RX12 yX12_longestFrom yX12_longestFrom, Cond.code yX12_longestFrom cX12_longestFrom 3 (some .int)]
def wsX12_findStays : List Cond := Cond.code yX12_findStays cX12_findStays 8 none :: ((wsX12_findStays_r1 ++ wsX12_findStays_r2) ++ wsX120)
def wsX12_stateNow : List Cond := Cond.code yX12_stateNow cX12_stateNow 1 (some .int) :: ([Cond.fieldLink RX12 7 "LadleKingsModel" "st" "[I"] ++ wsX120)
def wsX12_reign_r1 : List Cond := [Cond.constantLong RX12 236 (10), Cond.constantLong RX12 263 (19), Cond.fieldLink RX12 103 "LadleKingsModel" "stirs" "I", Cond.methodLink RX12 115 yX12_in, Cond.static yX12_in, Cond.initialized RX12, Cond.code yX12_in cX12_in 6 (some .boolean), Cond.methodLink RX12 265 yX12_findStays, Cond.instanceMethod yX12_findStays, Cond.selects RX12 yX12_findStays yX12_findStays, Cond.code yX12_findStays cX12_findStays 8 none, Cond.fieldLink RX12 48 "LadleKingsModel" "stays" "[I", Cond.fieldLink RX12 100 "LadleKingsModel" "seats" "I", Cond.methodLink RX12 233 yX12_then, Cond.instanceMethod yX12_then, Cond.selects RX12 yX12_then yX12_then, Cond.code yX12_then cX12_then 3 (some .int), Cond.fieldLink RX12 17 "LadleKingsModel" "brings" "[I", Cond.methodLink RX12 222 yX12_nextBy, Cond.instanceMethod yX12_nextBy, Cond.selects RX12 yX12_nextBy yX12_nextBy, Cond.code yX12_nextBy cX12_nextBy 5 (some .int), Cond.fieldLink RX12 35 "LadleKingsModel" "places" "[I", Cond.methodLink RX12 216 yX12_findPlaces]
def wsX12_reign_r2 : List Cond := [Cond.instanceMethod yX12_findPlaces, Cond.selects RX12 yX12_findPlaces yX12_findPlaces, Cond.code yX12_findPlaces cX12_findPlaces 7 none, Cond.fieldLink RX12 7 "LadleKingsModel" "st" "[I", Cond.methodLink RX12 212 yX12_flag, Cond.static yX12_flag, Cond.code yX12_flag cX12_flag 1 (some .int), Cond.methodLink RX12 260 yX12_longestFrom, Cond.instanceMethod yX12_longestFrom, Cond.selects RX12 yX12_longestFrom yX12_longestFrom, Cond.code yX12_longestFrom cX12_longestFrom 3 (some .int), Cond.methodLink RX12 268 yX12_stateNow, Cond.instanceMethod yX12_stateNow, Cond.selects RX12 yX12_stateNow yX12_stateNow, Cond.code yX12_stateNow cX12_stateNow 1 (some .int)]
def wsX12_reign : List Cond := Cond.code yX12_reign cX12_reign 10 (some .int) :: ((wsX12_reign_r1 ++ wsX12_reign_r2) ++ wsX120)
def wsX12_findFewest : List Cond := Cond.code yX12_findFewest cX12_findFewest 6 none :: ([Cond.fieldLink RX12 51 "LadleKingsModel" "fewest" "[I", Cond.constant RX12 271 (1000000), Cond.fieldLink RX12 103 "LadleKingsModel" "stirs" "I", Cond.fieldLink RX12 100 "LadleKingsModel" "seats" "I", Cond.methodLink RX12 233 yX12_then, Cond.instanceMethod yX12_then, Cond.selects RX12 yX12_then yX12_then, Cond.initialized RX12, Cond.code yX12_then cX12_then 3 (some .int), Cond.fieldLink RX12 17 "LadleKingsModel" "brings" "[I", Cond.methodLink RX12 222 yX12_nextBy, Cond.instanceMethod yX12_nextBy, Cond.selects RX12 yX12_nextBy yX12_nextBy, Cond.code yX12_nextBy cX12_nextBy 5 (some .int), Cond.fieldLink RX12 35 "LadleKingsModel" "places" "[I", Cond.methodLink RX12 216 yX12_findPlaces, Cond.instanceMethod yX12_findPlaces, Cond.selects RX12 yX12_findPlaces yX12_findPlaces, Cond.code yX12_findPlaces cX12_findPlaces 7 none, Cond.fieldLink RX12 7 "LadleKingsModel" "st" "[I", Cond.methodLink RX12 212 yX12_flag, Cond.static yX12_flag, Cond.code yX12_flag cX12_flag 1 (some .int)] ++ wsX120)
def wsX12_raise_r1 : List Cond := [Cond.constantLong RX12 236 (10), Cond.constantLong RX12 263 (19), Cond.fieldLink RX12 103 "LadleKingsModel" "stirs" "I", Cond.fieldLink RX12 51 "LadleKingsModel" "fewest" "[I", Cond.methodLink RX12 203 yX12_isSeat, Cond.instanceMethod yX12_isSeat, Cond.selects RX12 yX12_isSeat yX12_isSeat, Cond.initialized RX12, Cond.code yX12_isSeat cX12_isSeat 2 (some .boolean), Cond.fieldLink RX12 100 "LadleKingsModel" "seats" "I", Cond.methodLink RX12 115 yX12_in, Cond.static yX12_in, Cond.code yX12_in cX12_in 6 (some .boolean), Cond.methodLink RX12 272 yX12_findFewest, Cond.instanceMethod yX12_findFewest, Cond.selects RX12 yX12_findFewest yX12_findFewest, Cond.code yX12_findFewest cX12_findFewest 6 none, Cond.constant RX12 271 (1000000), Cond.methodLink RX12 233 yX12_then, Cond.instanceMethod yX12_then, Cond.selects RX12 yX12_then yX12_then, Cond.code yX12_then cX12_then 3 (some .int), Cond.fieldLink RX12 17 "LadleKingsModel" "brings" "[I", Cond.methodLink RX12 222 yX12_nextBy]
def wsX12_raise_r2 : List Cond := [Cond.instanceMethod yX12_nextBy, Cond.selects RX12 yX12_nextBy yX12_nextBy, Cond.code yX12_nextBy cX12_nextBy 5 (some .int), Cond.fieldLink RX12 35 "LadleKingsModel" "places" "[I", Cond.methodLink RX12 216 yX12_findPlaces, Cond.instanceMethod yX12_findPlaces, Cond.selects RX12 yX12_findPlaces yX12_findPlaces, Cond.code yX12_findPlaces cX12_findPlaces 7 none, Cond.fieldLink RX12 7 "LadleKingsModel" "st" "[I", Cond.methodLink RX12 212 yX12_flag, Cond.static yX12_flag, Cond.code yX12_flag cX12_flag 1 (some .int), Cond.methodLink RX12 268 yX12_stateNow, Cond.instanceMethod yX12_stateNow, Cond.selects RX12 yX12_stateNow yX12_stateNow, Cond.code yX12_stateNow cX12_stateNow 1 (some .int)]
def wsX12_raise : List Cond := Cond.code yX12_raise cX12_raise 8 (some .int) :: ((wsX12_raise_r1 ++ wsX12_raise_r2) ++ wsX120)
def wsX12_findBowls : List Cond := Cond.code yX12_findBowls cX12_findBowls 4 none :: ([Cond.fieldLink RX12 100 "LadleKingsModel" "seats" "I", Cond.fieldLink RX12 54 "LadleKingsModel" "bowls" "[I", Cond.fieldLink RX12 7 "LadleKingsModel" "st" "[I", Cond.fieldLink RX12 35 "LadleKingsModel" "places" "[I", Cond.methodLink RX12 216 yX12_findPlaces, Cond.instanceMethod yX12_findPlaces, Cond.selects RX12 yX12_findPlaces yX12_findPlaces, Cond.initialized RX12, Cond.code yX12_findPlaces cX12_findPlaces 7 none, Cond.methodLink RX12 212 yX12_flag, Cond.static yX12_flag, Cond.code yX12_flag cX12_flag 1 (some .int), Cond.methodLink RX12 219 yX12_cameFrom, Cond.instanceMethod yX12_cameFrom, Cond.selects RX12 yX12_cameFrom yX12_cameFrom, Cond.code yX12_cameFrom cX12_cameFrom 4 (some .int), Cond.fieldLink RX12 17 "LadleKingsModel" "brings" "[I"] ++ wsX120)
def wsX12_spoonsOf : List Cond := Cond.code yX12_spoonsOf cX12_spoonsOf 4 (some .int) :: ([Cond.fieldLink RX12 100 "LadleKingsModel" "seats" "I", Cond.fieldLink RX12 7 "LadleKingsModel" "st" "[I"] ++ wsX120)
def wsX12_coupBy_r1 : List Cond := [Cond.fieldLink RX12 100 "LadleKingsModel" "seats" "I", Cond.fieldLink RX12 57 "LadleKingsModel" "has" "[I", Cond.fieldLink RX12 54 "LadleKingsModel" "bowls" "[I", Cond.methodLink RX12 275 yX12_findBowls, Cond.instanceMethod yX12_findBowls, Cond.selects RX12 yX12_findBowls yX12_findBowls, Cond.initialized RX12, Cond.code yX12_findBowls cX12_findBowls 4 none, Cond.fieldLink RX12 7 "LadleKingsModel" "st" "[I", Cond.fieldLink RX12 35 "LadleKingsModel" "places" "[I", Cond.methodLink RX12 216 yX12_findPlaces, Cond.instanceMethod yX12_findPlaces, Cond.selects RX12 yX12_findPlaces yX12_findPlaces, Cond.code yX12_findPlaces cX12_findPlaces 7 none, Cond.methodLink RX12 212 yX12_flag, Cond.static yX12_flag, Cond.code yX12_flag cX12_flag 1 (some .int), Cond.methodLink RX12 219 yX12_cameFrom, Cond.instanceMethod yX12_cameFrom, Cond.selects RX12 yX12_cameFrom yX12_cameFrom, Cond.code yX12_cameFrom cX12_cameFrom 4 (some .int), Cond.fieldLink RX12 17 "LadleKingsModel" "brings" "[I", Cond.methodLink RX12 279 yX12_spoonsOf, Cond.instanceMethod yX12_spoonsOf]
def wsX12_coupBy_r2 : List Cond := [Cond.selects RX12 yX12_spoonsOf yX12_spoonsOf, Cond.code yX12_spoonsOf cX12_spoonsOf 4 (some .int)]
def wsX12_coupBy : List Cond := Cond.code yX12_coupBy cX12_coupBy 7 (some .int) :: ((wsX12_coupBy_r1 ++ wsX12_coupBy_r2) ++ wsX120)
def wsX12_leaderBy_r1 : List Cond := [Cond.fieldLink RX12 100 "LadleKingsModel" "seats" "I", Cond.methodLink RX12 282 yX12_coupBy, Cond.instanceMethod yX12_coupBy, Cond.selects RX12 yX12_coupBy yX12_coupBy, Cond.initialized RX12, Cond.code yX12_coupBy cX12_coupBy 7 (some .int), Cond.fieldLink RX12 57 "LadleKingsModel" "has" "[I", Cond.fieldLink RX12 54 "LadleKingsModel" "bowls" "[I", Cond.methodLink RX12 275 yX12_findBowls, Cond.instanceMethod yX12_findBowls, Cond.selects RX12 yX12_findBowls yX12_findBowls, Cond.code yX12_findBowls cX12_findBowls 4 none, Cond.fieldLink RX12 7 "LadleKingsModel" "st" "[I", Cond.fieldLink RX12 35 "LadleKingsModel" "places" "[I", Cond.methodLink RX12 216 yX12_findPlaces, Cond.instanceMethod yX12_findPlaces, Cond.selects RX12 yX12_findPlaces yX12_findPlaces, Cond.code yX12_findPlaces cX12_findPlaces 7 none, Cond.methodLink RX12 212 yX12_flag, Cond.static yX12_flag, Cond.code yX12_flag cX12_flag 1 (some .int), Cond.methodLink RX12 219 yX12_cameFrom, Cond.instanceMethod yX12_cameFrom, Cond.selects RX12 yX12_cameFrom yX12_cameFrom]
def wsX12_leaderBy_r2 : List Cond := [Cond.code yX12_cameFrom cX12_cameFrom 4 (some .int), Cond.fieldLink RX12 17 "LadleKingsModel" "brings" "[I", Cond.methodLink RX12 279 yX12_spoonsOf, Cond.instanceMethod yX12_spoonsOf, Cond.selects RX12 yX12_spoonsOf yX12_spoonsOf, Cond.code yX12_spoonsOf cX12_spoonsOf 4 (some .int)]
def wsX12_leaderBy : List Cond := Cond.code yX12_leaderBy cX12_leaderBy 4 (some .int) :: ((wsX12_leaderBy_r1 ++ wsX12_leaderBy_r2) ++ wsX120)
def wsX12_coup_r1 : List Cond := [Cond.methodLink RX12 203 yX12_isSeat, Cond.instanceMethod yX12_isSeat, Cond.selects RX12 yX12_isSeat yX12_isSeat, Cond.initialized RX12, Cond.code yX12_isSeat cX12_isSeat 2 (some .boolean), Cond.fieldLink RX12 100 "LadleKingsModel" "seats" "I", Cond.methodLink RX12 115 yX12_in, Cond.static yX12_in, Cond.code yX12_in cX12_in 6 (some .boolean), Cond.methodLink RX12 207 yX12_isStir, Cond.instanceMethod yX12_isStir, Cond.selects RX12 yX12_isStir yX12_isStir, Cond.code yX12_isStir cX12_isStir 2 (some .boolean), Cond.fieldLink RX12 103 "LadleKingsModel" "stirs" "I", Cond.methodLink RX12 238 yX12_isTold, Cond.static yX12_isTold, Cond.code yX12_isTold cX12_isTold 1 (some .boolean), Cond.methodLink RX12 285 yX12_leaderBy, Cond.instanceMethod yX12_leaderBy, Cond.selects RX12 yX12_leaderBy yX12_leaderBy, Cond.code yX12_leaderBy cX12_leaderBy 4 (some .int), Cond.methodLink RX12 282 yX12_coupBy, Cond.instanceMethod yX12_coupBy, Cond.selects RX12 yX12_coupBy yX12_coupBy]
def wsX12_coup_r2 : List Cond := [Cond.code yX12_coupBy cX12_coupBy 7 (some .int), Cond.fieldLink RX12 57 "LadleKingsModel" "has" "[I", Cond.fieldLink RX12 54 "LadleKingsModel" "bowls" "[I", Cond.methodLink RX12 275 yX12_findBowls, Cond.instanceMethod yX12_findBowls, Cond.selects RX12 yX12_findBowls yX12_findBowls, Cond.code yX12_findBowls cX12_findBowls 4 none, Cond.fieldLink RX12 7 "LadleKingsModel" "st" "[I", Cond.fieldLink RX12 35 "LadleKingsModel" "places" "[I", Cond.methodLink RX12 216 yX12_findPlaces, Cond.instanceMethod yX12_findPlaces, Cond.selects RX12 yX12_findPlaces yX12_findPlaces, Cond.code yX12_findPlaces cX12_findPlaces 7 none, Cond.methodLink RX12 212 yX12_flag, Cond.static yX12_flag, Cond.code yX12_flag cX12_flag 1 (some .int), Cond.methodLink RX12 219 yX12_cameFrom, Cond.instanceMethod yX12_cameFrom, Cond.selects RX12 yX12_cameFrom yX12_cameFrom, Cond.code yX12_cameFrom cX12_cameFrom 4 (some .int), Cond.fieldLink RX12 17 "LadleKingsModel" "brings" "[I", Cond.methodLink RX12 279 yX12_spoonsOf, Cond.instanceMethod yX12_spoonsOf, Cond.selects RX12 yX12_spoonsOf yX12_spoonsOf]
def wsX12_coup_r3 : List Cond := [Cond.code yX12_spoonsOf cX12_spoonsOf 4 (some .int)]
def wsX12_coup : List Cond := Cond.code yX12_coup cX12_coup 5 (some .int) :: ((wsX12_coup_r1 ++ (wsX12_coup_r2 ++ wsX12_coup_r3)) ++ wsX120)
def wsX12_firm_r1 : List Cond := [Cond.fieldLink RX12 100 "LadleKingsModel" "seats" "I", Cond.methodLink RX12 207 yX12_isStir, Cond.instanceMethod yX12_isStir, Cond.selects RX12 yX12_isStir yX12_isStir, Cond.initialized RX12, Cond.code yX12_isStir cX12_isStir 2 (some .boolean), Cond.fieldLink RX12 103 "LadleKingsModel" "stirs" "I", Cond.methodLink RX12 115 yX12_in, Cond.static yX12_in, Cond.code yX12_in cX12_in 6 (some .boolean), Cond.methodLink RX12 285 yX12_leaderBy, Cond.instanceMethod yX12_leaderBy, Cond.selects RX12 yX12_leaderBy yX12_leaderBy, Cond.code yX12_leaderBy cX12_leaderBy 4 (some .int), Cond.methodLink RX12 282 yX12_coupBy, Cond.instanceMethod yX12_coupBy, Cond.selects RX12 yX12_coupBy yX12_coupBy, Cond.code yX12_coupBy cX12_coupBy 7 (some .int), Cond.fieldLink RX12 57 "LadleKingsModel" "has" "[I", Cond.fieldLink RX12 54 "LadleKingsModel" "bowls" "[I", Cond.methodLink RX12 275 yX12_findBowls, Cond.instanceMethod yX12_findBowls, Cond.selects RX12 yX12_findBowls yX12_findBowls, Cond.code yX12_findBowls cX12_findBowls 4 none]
def wsX12_firm_r2 : List Cond := [Cond.fieldLink RX12 7 "LadleKingsModel" "st" "[I", Cond.fieldLink RX12 35 "LadleKingsModel" "places" "[I", Cond.methodLink RX12 216 yX12_findPlaces, Cond.instanceMethod yX12_findPlaces, Cond.selects RX12 yX12_findPlaces yX12_findPlaces, Cond.code yX12_findPlaces cX12_findPlaces 7 none, Cond.methodLink RX12 212 yX12_flag, Cond.static yX12_flag, Cond.code yX12_flag cX12_flag 1 (some .int), Cond.methodLink RX12 219 yX12_cameFrom, Cond.instanceMethod yX12_cameFrom, Cond.selects RX12 yX12_cameFrom yX12_cameFrom, Cond.code yX12_cameFrom cX12_cameFrom 4 (some .int), Cond.fieldLink RX12 17 "LadleKingsModel" "brings" "[I", Cond.methodLink RX12 279 yX12_spoonsOf, Cond.instanceMethod yX12_spoonsOf, Cond.selects RX12 yX12_spoonsOf yX12_spoonsOf, Cond.code yX12_spoonsOf cX12_spoonsOf 4 (some .int)]
def wsX12_firm : List Cond := Cond.code yX12_firm cX12_firm 4 (some .int) :: ((wsX12_firm_r1 ++ wsX12_firm_r2) ++ wsX120)
def wsX12_see : List Cond := Cond.code yX12_see cX12_see 2 (some .int) :: ([Cond.fieldLink RX12 7 "LadleKingsModel" "st" "[I", Cond.methodLink RX12 203 yX12_isSeat, Cond.instanceMethod yX12_isSeat, Cond.selects RX12 yX12_isSeat yX12_isSeat, Cond.initialized RX12, Cond.code yX12_isSeat cX12_isSeat 2 (some .boolean), Cond.fieldLink RX12 100 "LadleKingsModel" "seats" "I", Cond.methodLink RX12 115 yX12_in, Cond.static yX12_in, Cond.code yX12_in cX12_in 6 (some .boolean)] ++ wsX120)
def wsX12_forget : List Cond := Cond.code yX12_forget cX12_forget 3 (some .int) :: ([Cond.fieldLink RX12 7 "LadleKingsModel" "st" "[I", Cond.methodLink RX12 115 yX12_in, Cond.static yX12_in, Cond.initialized RX12, Cond.code yX12_in cX12_in 6 (some .boolean)] ++ wsX120)
def wsX12_findHistories : List Cond := Cond.code yX12_findHistories cX12_findHistories 6 none :: ([Cond.fieldLink RX12 7 "LadleKingsModel" "st" "[I", Cond.fieldLink RX12 60 "LadleKingsModel" "goesOn" "[I", Cond.fieldLink RX12 103 "LadleKingsModel" "stirs" "I", Cond.fieldLink RX12 100 "LadleKingsModel" "seats" "I", Cond.methodLink RX12 233 yX12_then, Cond.instanceMethod yX12_then, Cond.selects RX12 yX12_then yX12_then, Cond.initialized RX12, Cond.code yX12_then cX12_then 3 (some .int), Cond.fieldLink RX12 17 "LadleKingsModel" "brings" "[I", Cond.methodLink RX12 222 yX12_nextBy, Cond.instanceMethod yX12_nextBy, Cond.selects RX12 yX12_nextBy yX12_nextBy, Cond.code yX12_nextBy cX12_nextBy 5 (some .int), Cond.fieldLink RX12 35 "LadleKingsModel" "places" "[I", Cond.methodLink RX12 216 yX12_findPlaces, Cond.instanceMethod yX12_findPlaces, Cond.selects RX12 yX12_findPlaces yX12_findPlaces, Cond.code yX12_findPlaces cX12_findPlaces 7 none, Cond.methodLink RX12 212 yX12_flag, Cond.static yX12_flag, Cond.code yX12_flag cX12_flag 1 (some .int)] ++ wsX120)
def wsX12_canGo : List Cond := Cond.code yX12_canGo cX12_canGo 5 (some .boolean) :: ([Cond.fieldLink RX12 7 "LadleKingsModel" "st" "[I", Cond.fieldLink RX12 60 "LadleKingsModel" "goesOn" "[I", Cond.methodLink RX12 233 yX12_then, Cond.instanceMethod yX12_then, Cond.selects RX12 yX12_then yX12_then, Cond.initialized RX12, Cond.code yX12_then cX12_then 3 (some .int), Cond.fieldLink RX12 17 "LadleKingsModel" "brings" "[I", Cond.methodLink RX12 222 yX12_nextBy, Cond.instanceMethod yX12_nextBy, Cond.selects RX12 yX12_nextBy yX12_nextBy, Cond.code yX12_nextBy cX12_nextBy 5 (some .int), Cond.fieldLink RX12 35 "LadleKingsModel" "places" "[I", Cond.methodLink RX12 216 yX12_findPlaces, Cond.instanceMethod yX12_findPlaces, Cond.selects RX12 yX12_findPlaces yX12_findPlaces, Cond.code yX12_findPlaces cX12_findPlaces 7 none, Cond.fieldLink RX12 100 "LadleKingsModel" "seats" "I", Cond.methodLink RX12 212 yX12_flag, Cond.static yX12_flag, Cond.code yX12_flag cX12_flag 1 (some .int)] ++ wsX120)
def wsX12_histories_r1 : List Cond := [Cond.constantLong RX12 236 (10), Cond.constantLong RX12 288 (15), Cond.fieldLink RX12 60 "LadleKingsModel" "goesOn" "[I", Cond.fieldLink RX12 7 "LadleKingsModel" "st" "[I", Cond.fieldLink RX12 103 "LadleKingsModel" "stirs" "I", Cond.methodLink RX12 115 yX12_in, Cond.static yX12_in, Cond.initialized RX12, Cond.code yX12_in cX12_in 6 (some .boolean), Cond.methodLink RX12 290 yX12_findHistories, Cond.instanceMethod yX12_findHistories, Cond.selects RX12 yX12_findHistories yX12_findHistories, Cond.code yX12_findHistories cX12_findHistories 6 none, Cond.fieldLink RX12 100 "LadleKingsModel" "seats" "I", Cond.methodLink RX12 233 yX12_then, Cond.instanceMethod yX12_then, Cond.selects RX12 yX12_then yX12_then, Cond.code yX12_then cX12_then 3 (some .int), Cond.fieldLink RX12 17 "LadleKingsModel" "brings" "[I", Cond.methodLink RX12 222 yX12_nextBy, Cond.instanceMethod yX12_nextBy, Cond.selects RX12 yX12_nextBy yX12_nextBy, Cond.code yX12_nextBy cX12_nextBy 5 (some .int), Cond.fieldLink RX12 35 "LadleKingsModel" "places" "[I"]
def wsX12_histories_r2 : List Cond := [Cond.methodLink RX12 216 yX12_findPlaces, Cond.instanceMethod yX12_findPlaces, Cond.selects RX12 yX12_findPlaces yX12_findPlaces, Cond.code yX12_findPlaces cX12_findPlaces 7 none, Cond.methodLink RX12 212 yX12_flag, Cond.static yX12_flag, Cond.code yX12_flag cX12_flag 1 (some .int), Cond.methodLink RX12 268 yX12_stateNow, Cond.instanceMethod yX12_stateNow, Cond.selects RX12 yX12_stateNow yX12_stateNow, Cond.code yX12_stateNow cX12_stateNow 1 (some .int), Cond.methodLink RX12 293 yX12_canGo, Cond.instanceMethod yX12_canGo, Cond.selects RX12 yX12_canGo yX12_canGo, Cond.code yX12_canGo cX12_canGo 5 (some .boolean)]
def wsX12_histories : List Cond := Cond.code yX12_histories cX12_histories 6 (some .int) :: ((wsX12_histories_r1 ++ wsX12_histories_r2) ++ wsX120)
def wsX12_could_r1 : List Cond := [Cond.fieldLink RX12 7 "LadleKingsModel" "st" "[I", Cond.fieldLink RX12 63 "LadleKingsModel" "isThere" "[Z", Cond.fieldLink RX12 66 "LadleKingsModel" "isThereThen" "[Z", Cond.fieldLink RX12 103 "LadleKingsModel" "stirs" "I", Cond.methodLink RX12 115 yX12_in, Cond.static yX12_in, Cond.initialized RX12, Cond.code yX12_in cX12_in 6 (some .boolean), Cond.methodLink RX12 290 yX12_findHistories, Cond.instanceMethod yX12_findHistories, Cond.selects RX12 yX12_findHistories yX12_findHistories, Cond.code yX12_findHistories cX12_findHistories 6 none, Cond.fieldLink RX12 60 "LadleKingsModel" "goesOn" "[I", Cond.fieldLink RX12 100 "LadleKingsModel" "seats" "I", Cond.methodLink RX12 233 yX12_then, Cond.instanceMethod yX12_then, Cond.selects RX12 yX12_then yX12_then, Cond.code yX12_then cX12_then 3 (some .int), Cond.fieldLink RX12 17 "LadleKingsModel" "brings" "[I", Cond.methodLink RX12 222 yX12_nextBy, Cond.instanceMethod yX12_nextBy, Cond.selects RX12 yX12_nextBy yX12_nextBy, Cond.code yX12_nextBy cX12_nextBy 5 (some .int), Cond.fieldLink RX12 35 "LadleKingsModel" "places" "[I"]
def wsX12_could_r2 : List Cond := [Cond.methodLink RX12 216 yX12_findPlaces, Cond.instanceMethod yX12_findPlaces, Cond.selects RX12 yX12_findPlaces yX12_findPlaces, Cond.code yX12_findPlaces cX12_findPlaces 7 none, Cond.methodLink RX12 212 yX12_flag, Cond.static yX12_flag, Cond.code yX12_flag cX12_flag 1 (some .int), Cond.methodLink RX12 268 yX12_stateNow, Cond.instanceMethod yX12_stateNow, Cond.selects RX12 yX12_stateNow yX12_stateNow, Cond.code yX12_stateNow cX12_stateNow 1 (some .int), Cond.methodLink RX12 293 yX12_canGo, Cond.instanceMethod yX12_canGo, Cond.selects RX12 yX12_canGo yX12_canGo, Cond.code yX12_canGo cX12_canGo 5 (some .boolean)]
def wsX12_could : List Cond := Cond.code yX12_could cX12_could 6 (some .int) :: ((wsX12_could_r1 ++ wsX12_could_r2) ++ wsX120)
def wsX12_blind : List Cond := Cond.code yX12_blind cX12_blind 9 (some .long) :: ([Cond.constantLong RX12 296 (12), Cond.constantLong RX12 241 (-1), Cond.fieldLink RX12 100 "LadleKingsModel" "seats" "I", Cond.methodLink RX12 115 yX12_in, Cond.static yX12_in, Cond.initialized RX12, Cond.code yX12_in cX12_in 6 (some .boolean), Cond.methodLink RX12 238 yX12_isTold, Cond.static yX12_isTold, Cond.code yX12_isTold cX12_isTold 1 (some .boolean), Cond.methodLink RX12 252 yX12_power, Cond.instanceMethod yX12_power, Cond.selects RX12 yX12_power yX12_power, Cond.code yX12_power cX12_power 7 (some .long), Cond.methodLink RX12 256 yX12_lowest, Cond.static yX12_lowest, Cond.code yX12_lowest cX12_lowest 7 (some .long), Cond.methodLink RX12 229 yX12_common, Cond.static yX12_common, Cond.code yX12_common cX12_common 10 (some .long)] ++ wsX120)
def wsX12_copies : List Cond := Cond.code yX12_copies cX12_copies 4 none :: ([Cond.fieldLink RX12 7 "LadleKingsModel" "st" "[I"] ++ wsX120)
def wsX12_unlikeBy_r1 : List Cond := [Cond.fieldLink RX12 100 "LadleKingsModel" "seats" "I", Cond.fieldLink RX12 7 "LadleKingsModel" "st" "[I", Cond.fieldLink RX12 103 "LadleKingsModel" "stirs" "I", Cond.methodLink RX12 298 yX12_copies, Cond.instanceMethod yX12_copies, Cond.selects RX12 yX12_copies yX12_copies, Cond.initialized RX12, Cond.code yX12_copies cX12_copies 4 none, Cond.methodLink RX12 226 yX12_goesDay, Cond.instanceMethod yX12_goesDay, Cond.selects RX12 yX12_goesDay yX12_goesDay, Cond.code yX12_goesDay cX12_goesDay 4 none, Cond.fieldLink RX12 38 "LadleKingsModel" "stirred" "[I", Cond.fieldLink RX12 17 "LadleKingsModel" "brings" "[I", Cond.fieldLink RX12 35 "LadleKingsModel" "places" "[I", Cond.methodLink RX12 222 yX12_nextBy, Cond.instanceMethod yX12_nextBy, Cond.selects RX12 yX12_nextBy yX12_nextBy, Cond.code yX12_nextBy cX12_nextBy 5 (some .int), Cond.methodLink RX12 216 yX12_findPlaces, Cond.instanceMethod yX12_findPlaces, Cond.selects RX12 yX12_findPlaces yX12_findPlaces, Cond.code yX12_findPlaces cX12_findPlaces 7 none, Cond.methodLink RX12 212 yX12_flag]
def wsX12_unlikeBy_r2 : List Cond := [Cond.static yX12_flag, Cond.code yX12_flag cX12_flag 1 (some .int)]
def wsX12_unlikeBy : List Cond := Cond.code yX12_unlikeBy cX12_unlikeBy 7 (some .int) :: ((wsX12_unlikeBy_r1 ++ wsX12_unlikeBy_r2) ++ wsX120)
def wsX12_fair_r1 : List Cond := [Cond.constantLong RX12 193 (4), Cond.constantLong RX12 236 (10), Cond.constantLong RX12 301 (13), Cond.fieldLink RX12 103 "LadleKingsModel" "stirs" "I", Cond.constant RX12 271 (1000000), Cond.fieldLink RX12 69 "LadleKingsModel" "bestRow" "[I", Cond.methodLink RX12 115 yX12_in, Cond.static yX12_in, Cond.initialized RX12, Cond.code yX12_in cX12_in 6 (some .boolean), Cond.methodLink RX12 252 yX12_power, Cond.instanceMethod yX12_power, Cond.selects RX12 yX12_power yX12_power, Cond.code yX12_power cX12_power 7 (some .long), Cond.methodLink RX12 303 yX12_unlikeBy, Cond.instanceMethod yX12_unlikeBy, Cond.selects RX12 yX12_unlikeBy yX12_unlikeBy, Cond.code yX12_unlikeBy cX12_unlikeBy 7 (some .int), Cond.fieldLink RX12 100 "LadleKingsModel" "seats" "I", Cond.fieldLink RX12 7 "LadleKingsModel" "st" "[I", Cond.methodLink RX12 298 yX12_copies, Cond.instanceMethod yX12_copies, Cond.selects RX12 yX12_copies yX12_copies, Cond.code yX12_copies cX12_copies 4 none]
def wsX12_fair_r2 : List Cond := [Cond.methodLink RX12 226 yX12_goesDay, Cond.instanceMethod yX12_goesDay, Cond.selects RX12 yX12_goesDay yX12_goesDay, Cond.code yX12_goesDay cX12_goesDay 4 none, Cond.fieldLink RX12 38 "LadleKingsModel" "stirred" "[I", Cond.fieldLink RX12 17 "LadleKingsModel" "brings" "[I", Cond.fieldLink RX12 35 "LadleKingsModel" "places" "[I", Cond.methodLink RX12 222 yX12_nextBy, Cond.instanceMethod yX12_nextBy, Cond.selects RX12 yX12_nextBy yX12_nextBy, Cond.code yX12_nextBy cX12_nextBy 5 (some .int), Cond.methodLink RX12 216 yX12_findPlaces, Cond.instanceMethod yX12_findPlaces, Cond.selects RX12 yX12_findPlaces yX12_findPlaces, Cond.code yX12_findPlaces cX12_findPlaces 7 none, Cond.methodLink RX12 212 yX12_flag, Cond.static yX12_flag, Cond.code yX12_flag cX12_flag 1 (some .int)]
def wsX12_fair : List Cond := Cond.code yX12_fair cX12_fair 8 (some .int) :: ((wsX12_fair_r1 ++ wsX12_fair_r2) ++ wsX120)
def wsX12_keep : List Cond := Cond.code yX12_keep cX12_keep 3 (some .int) :: ([Cond.fieldLink RX12 13 "LadleKingsModel" "isKept" "[Z", Cond.methodLink RX12 115 yX12_in, Cond.static yX12_in, Cond.initialized RX12, Cond.code yX12_in cX12_in 6 (some .boolean), Cond.methodLink RX12 212 yX12_flag, Cond.static yX12_flag, Cond.code yX12_flag cX12_flag 1 (some .int), Cond.methodLink RX12 298 yX12_copies, Cond.instanceMethod yX12_copies, Cond.selects RX12 yX12_copies yX12_copies, Cond.code yX12_copies cX12_copies 4 none, Cond.fieldLink RX12 7 "LadleKingsModel" "st" "[I"] ++ wsX120)
def wsX12_back : List Cond := Cond.code yX12_back cX12_back 2 (some .int) :: ([Cond.fieldLink RX12 13 "LadleKingsModel" "isKept" "[Z", Cond.fieldLink RX12 7 "LadleKingsModel" "st" "[I", Cond.methodLink RX12 115 yX12_in, Cond.static yX12_in, Cond.initialized RX12, Cond.code yX12_in cX12_in 6 (some .boolean), Cond.methodLink RX12 298 yX12_copies, Cond.instanceMethod yX12_copies, Cond.selects RX12 yX12_copies yX12_copies, Cond.code yX12_copies cX12_copies 4 none] ++ wsX120)
def wsX12_isSheet : List Cond := Cond.code yX12_isSheet cX12_isSheet 2 (some .boolean) :: ([Cond.constantLong RX12 306 (3), Cond.constantLong RX12 308 (2), Cond.methodLink RX12 115 yX12_in, Cond.static yX12_in, Cond.initialized RX12, Cond.code yX12_in cX12_in 6 (some .boolean)])
def wsX12_sheet : List Cond := Cond.code yX12_sheet cX12_sheet 5 (some .int) :: ([Cond.fieldLink RX12 72 "LadleKingsModel" "lanes" "[I", Cond.fieldLink RX12 75 "LadleKingsModel" "sizes" "[I", Cond.fieldLink RX12 78 "LadleKingsModel" "cells" "[I", Cond.methodLink RX12 310 yX12_isSheet, Cond.static yX12_isSheet, Cond.initialized RX12, Cond.code yX12_isSheet cX12_isSheet 2 (some .boolean), Cond.constantLong RX12 306 (3), Cond.constantLong RX12 308 (2), Cond.methodLink RX12 115 yX12_in, Cond.static yX12_in, Cond.code yX12_in cX12_in 6 (some .boolean)] ++ wsX120)
def wsX12_lay : List Cond := Cond.code yX12_lay cX12_lay 4 (some .int) :: ([Cond.fieldLink RX12 72 "LadleKingsModel" "lanes" "[I", Cond.fieldLink RX12 75 "LadleKingsModel" "sizes" "[I", Cond.fieldLink RX12 78 "LadleKingsModel" "cells" "[I", Cond.methodLink RX12 310 yX12_isSheet, Cond.static yX12_isSheet, Cond.initialized RX12, Cond.code yX12_isSheet cX12_isSheet 2 (some .boolean), Cond.constantLong RX12 306 (3), Cond.constantLong RX12 308 (2), Cond.methodLink RX12 115 yX12_in, Cond.static yX12_in, Cond.code yX12_in cX12_in 6 (some .boolean)] ++ wsX120)
def wsX12_read_r1 : List Cond := [Cond.constantLong RX12 314 (20), Cond.fieldLink RX12 72 "LadleKingsModel" "lanes" "[I", Cond.fieldLink RX12 75 "LadleKingsModel" "sizes" "[I", Cond.fieldLink RX12 78 "LadleKingsModel" "cells" "[I", Cond.fieldLink RX12 319 "LadleKingsModel" "torn" "I", Cond.methodLink RX12 310 yX12_isSheet, Cond.static yX12_isSheet, Cond.initialized RX12, Cond.code yX12_isSheet cX12_isSheet 2 (some .boolean), Cond.constantLong RX12 306 (3), Cond.constantLong RX12 308 (2), Cond.methodLink RX12 115 yX12_in, Cond.static yX12_in, Cond.code yX12_in cX12_in 6 (some .boolean), Cond.methodLink RX12 298 yX12_copies, Cond.instanceMethod yX12_copies, Cond.selects RX12 yX12_copies yX12_copies, Cond.code yX12_copies cX12_copies 4 none, Cond.fieldLink RX12 7 "LadleKingsModel" "st" "[I", Cond.methodLink RX12 316 yX12_day, Cond.instanceMethod yX12_day, Cond.selects RX12 yX12_day yX12_day, Cond.code yX12_day cX12_day 2 (some .int), Cond.methodLink RX12 207 yX12_isStir]
def wsX12_read_r2 : List Cond := [Cond.instanceMethod yX12_isStir, Cond.selects RX12 yX12_isStir yX12_isStir, Cond.code yX12_isStir cX12_isStir 2 (some .boolean), Cond.fieldLink RX12 103 "LadleKingsModel" "stirs" "I", Cond.methodLink RX12 226 yX12_goesDay, Cond.instanceMethod yX12_goesDay, Cond.selects RX12 yX12_goesDay yX12_goesDay, Cond.code yX12_goesDay cX12_goesDay 4 none, Cond.fieldLink RX12 100 "LadleKingsModel" "seats" "I", Cond.fieldLink RX12 38 "LadleKingsModel" "stirred" "[I", Cond.fieldLink RX12 17 "LadleKingsModel" "brings" "[I", Cond.fieldLink RX12 35 "LadleKingsModel" "places" "[I", Cond.methodLink RX12 222 yX12_nextBy, Cond.instanceMethod yX12_nextBy, Cond.selects RX12 yX12_nextBy yX12_nextBy, Cond.code yX12_nextBy cX12_nextBy 5 (some .int), Cond.methodLink RX12 216 yX12_findPlaces, Cond.instanceMethod yX12_findPlaces, Cond.selects RX12 yX12_findPlaces yX12_findPlaces, Cond.code yX12_findPlaces cX12_findPlaces 7 none, Cond.methodLink RX12 212 yX12_flag, Cond.static yX12_flag, Cond.code yX12_flag cX12_flag 1 (some .int)]
def wsX12_read : List Cond := Cond.code yX12_read cX12_read 10 (some .int) :: ((wsX12_read_r1 ++ wsX12_read_r2) ++ wsX120)
def wsX12_torn : List Cond := Cond.code yX12_torn cX12_torn 1 (some .int) :: ([Cond.fieldLink RX12 319 "LadleKingsModel" "torn" "I"] ++ wsX120)
def wsX12_count : List Cond := Cond.code yX12_count cX12_count 4 (some .int) :: ([Cond.fieldLink RX12 100 "LadleKingsModel" "seats" "I", Cond.fieldLink RX12 7 "LadleKingsModel" "st" "[I", Cond.fieldLink RX12 13 "LadleKingsModel" "isKept" "[Z", Cond.fieldLink RX12 110 "LadleKingsModel" "taped" "I", Cond.fieldLink RX12 72 "LadleKingsModel" "lanes" "[I", Cond.fieldLink RX12 75 "LadleKingsModel" "sizes" "[I", Cond.methodLink RX12 212 yX12_flag, Cond.static yX12_flag, Cond.initialized RX12, Cond.code yX12_flag cX12_flag 1 (some .int)] ++ wsX120)
def wsJ9_max_7cf53 : List Cond := Cond.code yJ9_max_7cf53 cJ9_max_7cf53 2 (some .int) :: ([])
def wsJ9_min_7cf53 : List Cond := Cond.code yJ9_min_7cf53 cJ9_min_7cf53 2 (some .int) :: ([])
theorem inJx145de : ∀ w ∈ wsJx145de0, w ∈ lw_tbl := by decide +kernel
theorem inJx9f9b0 : ∀ w ∈ wsJx9f9b00, w ∈ lw_tbl := by decide +kernel
theorem inJxb160c : ∀ w ∈ wsJxb160c0, w ∈ lw_tbl := by decide +kernel
theorem inJ6 : ∀ w ∈ wsJ60, w ∈ lw_tbl := by decide +kernel
theorem inJ9 : ∀ w ∈ wsJ90, w ∈ lw_tbl := by decide +kernel
theorem inJ0 : ∀ w ∈ wsJ00, w ∈ lw_tbl := by decide +kernel
theorem inJ1 : ∀ w ∈ wsJ10, w ∈ lw_tbl := by decide +kernel
theorem inJ2 : ∀ w ∈ wsJ20, w ∈ lw_tbl := by decide +kernel
theorem inJ10 : ∀ w ∈ wsJ100, w ∈ lw_tbl := by decide +kernel
theorem inJxfd54e : ∀ w ∈ wsJxfd54e0, w ∈ lw_tbl := by decide +kernel
theorem inJx3cf43 : ∀ w ∈ wsJx3cf430, w ∈ lw_tbl := by decide +kernel
theorem inJ7 : ∀ w ∈ wsJ70, w ∈ lw_tbl := by decide +kernel
theorem inJ3 : ∀ w ∈ wsJ30, w ∈ lw_tbl := by decide +kernel
/-! ===== decode by the code's number ===== -/
def cbs (N : Nat) : Nat → List UInt8
  | 0 => []
  | n + 1 => UInt8.ofNat (N % 256) :: cbs (Nat.shiftRight N 8) n
theorem cbs_len : ∀ (n N : Nat), (cbs N n).length = n := by
  intro n
  induction n with
  | zero => intro N; rfl
  | succ n ih => intro N; show (cbs (Nat.shiftRight N 8) n).length + 1 = n + 1; rw [ih]
theorem cbs_at : ∀ (n N i : Nat), i < n → (cbs N n)[i]? = some (UInt8.ofNat (Nat.shiftRight N (8 * i) % 256)) := by
  intro n
  induction n with
  | zero => intro N i h; exact absurd h (Nat.not_lt_zero _)
  | succ n ih =>
    intro N i h
    cases i with
    | zero => rfl
    | succ i =>
      show (cbs (Nat.shiftRight N 8) n)[i]? = _
      rw [ih _ i (Nat.lt_of_succ_lt_succ h)]
      have e : Nat.shiftRight (Nat.shiftRight N 8) (8 * i) = Nat.shiftRight N (8 * (i + 1)) := by
        show (N >>> 8) >>> (8 * i) = N >>> (8 * (i + 1))
        rw [← Nat.shiftRight_add, show 8 + 8 * i = 8 * (i + 1) from by omega]
      rw [e]
def rdb (c : ByteArray) (p : Nat) : Option Nat := if h : p < c.size then some c[p].toNat else none
theorem rdb_of {c : ByteArray} {N n i v : Nat} (k : c.data.toList = cbs N n) (hi : i < n) (h : Nat.shiftRight N (8 * i) % 256 = v) : rdb c i = some v := by
  have hs : c.size = n := by
    show c.data.size = n
    rw [← Array.length_toList, k, cbs_len]
  have g := cbs_at n N i hi
  rw [← k, Array.getElem?_toList, h] at g
  unfold rdb
  rw [dif_pos (by omega)]
  obtain ⟨hb, e⟩ := Array.getElem?_eq_some_iff.mp g
  have e2 : c[i] = UInt8.ofNat v := e
  rw [e2]
  congr 1
  have hv : v < 256 := by rw [← h]; exact Nat.mod_lt _ (by decide)
  rw [UInt8.toNat_ofNat']
  exact Nat.mod_eq_of_lt hv
theorem rdb_u1 {c : ByteArray} {p v : Nat} (h : rdb c p = some v) : (Reader.u1 : Decoder Nat) c p = .ok (v, p + 1) := by
  unfold rdb at h
  split at h
  · rename_i hp
    injection h with h
    show (dite (p < c.size) _ _ : Decoder Nat) c p = _
    rw [dif_pos hp, ← h]
    rfl
  · cases h
theorem rdb_u2 {c : ByteArray} {p a b : Nat} (h : rdb c p = some a) (h2 : rdb c (p + 1) = some b) : (Reader.u2 : Decoder Nat) c p = .ok (a * 256 + b, p + 1 + 1) := by
  show ((Reader.u1 : Decoder Nat) c p).bind _ = _
  rw [rdb_u1 h]
  show ((Reader.u1 : Decoder Nat) c (p + 1)).bind _ = _
  rw [rdb_u1 h2]
  rfl
theorem rdb_s2 {c : ByteArray} {p a b : Nat} (h : rdb c p = some a) (h2 : rdb c (p + 1) = some b) : (Reader.s2 : Decoder Int) c p = .ok (Reader.signed 16 (a * 256 + b), p + 1 + 1) := by
  show ((Reader.u2 : Decoder Nat) c p).bind _ = _
  rw [rdb_u2 h h2]
  rfl
theorem rdb_s1 {c : ByteArray} {p a : Nat} (h : rdb c p = some a) : (Reader.s1 : Decoder Int) c p = .ok (Reader.signed 8 a, p + 1) := by
  show ((Reader.u1 : Decoder Nat) c p).bind _ = _
  rw [rdb_u1 h]
  rfl
theorem dec_of {c : ByteArray} {pc q : Nat} {i : Instr} (e : (Decoder.instr pc) c pc = .ok (i, pc + q)) : decode c pc = .ok (i, q) := by
  show ((Decoder.instr pc) c pc).bind _ = _
  rw [e]
  show Except.ok (i, pc + q - pc) = _
  rw [Nat.add_sub_cancel_left]
theorem op_2 {c : ByteArray} {N n pc : Nat} (k : c.data.toList = cbs N n) (hn : pc + 1 ≤ n) (h0 : Nat.shiftRight N (8 * pc) % 256 = 2) : decode c pc = .ok (.iconst (-1), 1) := dec_of (by
  show ((Reader.u1 : Decoder Nat) c pc).bind _ = _
  rw [rdb_u1 (rdb_of k (by omega) h0)]
  rfl)
theorem op_3 {c : ByteArray} {N n pc : Nat} (k : c.data.toList = cbs N n) (hn : pc + 1 ≤ n) (h0 : Nat.shiftRight N (8 * pc) % 256 = 3) : decode c pc = .ok (.iconst 0, 1) := dec_of (by
  show ((Reader.u1 : Decoder Nat) c pc).bind _ = _
  rw [rdb_u1 (rdb_of k (by omega) h0)]
  rfl)
theorem op_4 {c : ByteArray} {N n pc : Nat} (k : c.data.toList = cbs N n) (hn : pc + 1 ≤ n) (h0 : Nat.shiftRight N (8 * pc) % 256 = 4) : decode c pc = .ok (.iconst 1, 1) := dec_of (by
  show ((Reader.u1 : Decoder Nat) c pc).bind _ = _
  rw [rdb_u1 (rdb_of k (by omega) h0)]
  rfl)
theorem op_5 {c : ByteArray} {N n pc : Nat} (k : c.data.toList = cbs N n) (hn : pc + 1 ≤ n) (h0 : Nat.shiftRight N (8 * pc) % 256 = 5) : decode c pc = .ok (.iconst 2, 1) := dec_of (by
  show ((Reader.u1 : Decoder Nat) c pc).bind _ = _
  rw [rdb_u1 (rdb_of k (by omega) h0)]
  rfl)
theorem op_6 {c : ByteArray} {N n pc : Nat} (k : c.data.toList = cbs N n) (hn : pc + 1 ≤ n) (h0 : Nat.shiftRight N (8 * pc) % 256 = 6) : decode c pc = .ok (.iconst 3, 1) := dec_of (by
  show ((Reader.u1 : Decoder Nat) c pc).bind _ = _
  rw [rdb_u1 (rdb_of k (by omega) h0)]
  rfl)
theorem op_7 {c : ByteArray} {N n pc : Nat} (k : c.data.toList = cbs N n) (hn : pc + 1 ≤ n) (h0 : Nat.shiftRight N (8 * pc) % 256 = 7) : decode c pc = .ok (.iconst 4, 1) := dec_of (by
  show ((Reader.u1 : Decoder Nat) c pc).bind _ = _
  rw [rdb_u1 (rdb_of k (by omega) h0)]
  rfl)
theorem op_8 {c : ByteArray} {N n pc : Nat} (k : c.data.toList = cbs N n) (hn : pc + 1 ≤ n) (h0 : Nat.shiftRight N (8 * pc) % 256 = 8) : decode c pc = .ok (.iconst 5, 1) := dec_of (by
  show ((Reader.u1 : Decoder Nat) c pc).bind _ = _
  rw [rdb_u1 (rdb_of k (by omega) h0)]
  rfl)
theorem op_9 {c : ByteArray} {N n pc : Nat} (k : c.data.toList = cbs N n) (hn : pc + 1 ≤ n) (h0 : Nat.shiftRight N (8 * pc) % 256 = 9) : decode c pc = .ok (.lconst 0, 1) := dec_of (by
  show ((Reader.u1 : Decoder Nat) c pc).bind _ = _
  rw [rdb_u1 (rdb_of k (by omega) h0)]
  rfl)
theorem op_10 {c : ByteArray} {N n pc : Nat} (k : c.data.toList = cbs N n) (hn : pc + 1 ≤ n) (h0 : Nat.shiftRight N (8 * pc) % 256 = 10) : decode c pc = .ok (.lconst 1, 1) := dec_of (by
  show ((Reader.u1 : Decoder Nat) c pc).bind _ = _
  rw [rdb_u1 (rdb_of k (by omega) h0)]
  rfl)
theorem op_16 {c : ByteArray} {N n pc a : Nat} {z : Int} (k : c.data.toList = cbs N n) (hn : pc + 2 ≤ n) (h0 : Nat.shiftRight N (8 * pc) % 256 = 16) (h1 : Nat.shiftRight N (8 * (pc + 1)) % 256 = a) (hz : Reader.signed 8 a = z) : decode c pc = .ok (.bipush z, 2) := dec_of (by
  show ((Reader.u1 : Decoder Nat) c pc).bind _ = _
  rw [rdb_u1 (rdb_of k (by omega) h0)]
  show ((Reader.s1 : Decoder Int) c (pc + 1)).bind _ = _
  rw [rdb_s1 (rdb_of k (by omega) h1), hz]
  rfl)
theorem op_18 {c : ByteArray} {N n pc a : Nat} (k : c.data.toList = cbs N n) (hn : pc + 2 ≤ n) (h0 : Nat.shiftRight N (8 * pc) % 256 = 18) (h1 : Nat.shiftRight N (8 * (pc + 1)) % 256 = a) : decode c pc = .ok (.ldc a, 2) := dec_of (by
  show ((Reader.u1 : Decoder Nat) c pc).bind _ = _
  rw [rdb_u1 (rdb_of k (by omega) h0)]
  show ((Reader.u1 : Decoder Nat) c (pc + 1)).bind _ = _
  rw [rdb_u1 (rdb_of k (by omega) h1)]
  rfl)
theorem op_19 {c : ByteArray} {N n pc a b : Nat} (k : c.data.toList = cbs N n) (hn : pc + 3 ≤ n) (h0 : Nat.shiftRight N (8 * pc) % 256 = 19) (h1 : Nat.shiftRight N (8 * (pc + 1)) % 256 = a) (h2 : Nat.shiftRight N (8 * (pc + 2)) % 256 = b) : decode c pc = .ok (.ldc_w (a * 256 + b), 3) := dec_of (by
  show ((Reader.u1 : Decoder Nat) c pc).bind _ = _
  rw [rdb_u1 (rdb_of k (by omega) h0)]
  show ((Reader.u2 : Decoder Nat) c (pc + 1)).bind _ = _
  rw [rdb_u2 (rdb_of k (by omega) h1) (rdb_of k (by omega) h2)]
  rfl)
theorem op_20 {c : ByteArray} {N n pc a b : Nat} (k : c.data.toList = cbs N n) (hn : pc + 3 ≤ n) (h0 : Nat.shiftRight N (8 * pc) % 256 = 20) (h1 : Nat.shiftRight N (8 * (pc + 1)) % 256 = a) (h2 : Nat.shiftRight N (8 * (pc + 2)) % 256 = b) : decode c pc = .ok (.ldc2_w (a * 256 + b), 3) := dec_of (by
  show ((Reader.u1 : Decoder Nat) c pc).bind _ = _
  rw [rdb_u1 (rdb_of k (by omega) h0)]
  show ((Reader.u2 : Decoder Nat) c (pc + 1)).bind _ = _
  rw [rdb_u2 (rdb_of k (by omega) h1) (rdb_of k (by omega) h2)]
  rfl)
theorem op_21 {c : ByteArray} {N n pc a : Nat} (k : c.data.toList = cbs N n) (hn : pc + 2 ≤ n) (h0 : Nat.shiftRight N (8 * pc) % 256 = 21) (h1 : Nat.shiftRight N (8 * (pc + 1)) % 256 = a) : decode c pc = .ok (.iload a, 2) := dec_of (by
  show ((Reader.u1 : Decoder Nat) c pc).bind _ = _
  rw [rdb_u1 (rdb_of k (by omega) h0)]
  show ((Reader.u1 : Decoder Nat) c (pc + 1)).bind _ = _
  rw [rdb_u1 (rdb_of k (by omega) h1)]
  rfl)
theorem op_22 {c : ByteArray} {N n pc a : Nat} (k : c.data.toList = cbs N n) (hn : pc + 2 ≤ n) (h0 : Nat.shiftRight N (8 * pc) % 256 = 22) (h1 : Nat.shiftRight N (8 * (pc + 1)) % 256 = a) : decode c pc = .ok (.lload a, 2) := dec_of (by
  show ((Reader.u1 : Decoder Nat) c pc).bind _ = _
  rw [rdb_u1 (rdb_of k (by omega) h0)]
  show ((Reader.u1 : Decoder Nat) c (pc + 1)).bind _ = _
  rw [rdb_u1 (rdb_of k (by omega) h1)]
  rfl)
theorem op_25 {c : ByteArray} {N n pc a : Nat} (k : c.data.toList = cbs N n) (hn : pc + 2 ≤ n) (h0 : Nat.shiftRight N (8 * pc) % 256 = 25) (h1 : Nat.shiftRight N (8 * (pc + 1)) % 256 = a) : decode c pc = .ok (.aload a, 2) := dec_of (by
  show ((Reader.u1 : Decoder Nat) c pc).bind _ = _
  rw [rdb_u1 (rdb_of k (by omega) h0)]
  show ((Reader.u1 : Decoder Nat) c (pc + 1)).bind _ = _
  rw [rdb_u1 (rdb_of k (by omega) h1)]
  rfl)
theorem op_26 {c : ByteArray} {N n pc : Nat} (k : c.data.toList = cbs N n) (hn : pc + 1 ≤ n) (h0 : Nat.shiftRight N (8 * pc) % 256 = 26) : decode c pc = .ok (.iload_n 0, 1) := dec_of (by
  show ((Reader.u1 : Decoder Nat) c pc).bind _ = _
  rw [rdb_u1 (rdb_of k (by omega) h0)]
  rfl)
theorem op_27 {c : ByteArray} {N n pc : Nat} (k : c.data.toList = cbs N n) (hn : pc + 1 ≤ n) (h0 : Nat.shiftRight N (8 * pc) % 256 = 27) : decode c pc = .ok (.iload_n 1, 1) := dec_of (by
  show ((Reader.u1 : Decoder Nat) c pc).bind _ = _
  rw [rdb_u1 (rdb_of k (by omega) h0)]
  rfl)
theorem op_28 {c : ByteArray} {N n pc : Nat} (k : c.data.toList = cbs N n) (hn : pc + 1 ≤ n) (h0 : Nat.shiftRight N (8 * pc) % 256 = 28) : decode c pc = .ok (.iload_n 2, 1) := dec_of (by
  show ((Reader.u1 : Decoder Nat) c pc).bind _ = _
  rw [rdb_u1 (rdb_of k (by omega) h0)]
  rfl)
theorem op_29 {c : ByteArray} {N n pc : Nat} (k : c.data.toList = cbs N n) (hn : pc + 1 ≤ n) (h0 : Nat.shiftRight N (8 * pc) % 256 = 29) : decode c pc = .ok (.iload_n 3, 1) := dec_of (by
  show ((Reader.u1 : Decoder Nat) c pc).bind _ = _
  rw [rdb_u1 (rdb_of k (by omega) h0)]
  rfl)
theorem op_30 {c : ByteArray} {N n pc : Nat} (k : c.data.toList = cbs N n) (hn : pc + 1 ≤ n) (h0 : Nat.shiftRight N (8 * pc) % 256 = 30) : decode c pc = .ok (.lload_n 0, 1) := dec_of (by
  show ((Reader.u1 : Decoder Nat) c pc).bind _ = _
  rw [rdb_u1 (rdb_of k (by omega) h0)]
  rfl)
theorem op_31 {c : ByteArray} {N n pc : Nat} (k : c.data.toList = cbs N n) (hn : pc + 1 ≤ n) (h0 : Nat.shiftRight N (8 * pc) % 256 = 31) : decode c pc = .ok (.lload_n 1, 1) := dec_of (by
  show ((Reader.u1 : Decoder Nat) c pc).bind _ = _
  rw [rdb_u1 (rdb_of k (by omega) h0)]
  rfl)
theorem op_32 {c : ByteArray} {N n pc : Nat} (k : c.data.toList = cbs N n) (hn : pc + 1 ≤ n) (h0 : Nat.shiftRight N (8 * pc) % 256 = 32) : decode c pc = .ok (.lload_n 2, 1) := dec_of (by
  show ((Reader.u1 : Decoder Nat) c pc).bind _ = _
  rw [rdb_u1 (rdb_of k (by omega) h0)]
  rfl)
theorem op_33 {c : ByteArray} {N n pc : Nat} (k : c.data.toList = cbs N n) (hn : pc + 1 ≤ n) (h0 : Nat.shiftRight N (8 * pc) % 256 = 33) : decode c pc = .ok (.lload_n 3, 1) := dec_of (by
  show ((Reader.u1 : Decoder Nat) c pc).bind _ = _
  rw [rdb_u1 (rdb_of k (by omega) h0)]
  rfl)
theorem op_42 {c : ByteArray} {N n pc : Nat} (k : c.data.toList = cbs N n) (hn : pc + 1 ≤ n) (h0 : Nat.shiftRight N (8 * pc) % 256 = 42) : decode c pc = .ok (.aload_n 0, 1) := dec_of (by
  show ((Reader.u1 : Decoder Nat) c pc).bind _ = _
  rw [rdb_u1 (rdb_of k (by omega) h0)]
  rfl)
theorem op_43 {c : ByteArray} {N n pc : Nat} (k : c.data.toList = cbs N n) (hn : pc + 1 ≤ n) (h0 : Nat.shiftRight N (8 * pc) % 256 = 43) : decode c pc = .ok (.aload_n 1, 1) := dec_of (by
  show ((Reader.u1 : Decoder Nat) c pc).bind _ = _
  rw [rdb_u1 (rdb_of k (by omega) h0)]
  rfl)
theorem op_44 {c : ByteArray} {N n pc : Nat} (k : c.data.toList = cbs N n) (hn : pc + 1 ≤ n) (h0 : Nat.shiftRight N (8 * pc) % 256 = 44) : decode c pc = .ok (.aload_n 2, 1) := dec_of (by
  show ((Reader.u1 : Decoder Nat) c pc).bind _ = _
  rw [rdb_u1 (rdb_of k (by omega) h0)]
  rfl)
theorem op_45 {c : ByteArray} {N n pc : Nat} (k : c.data.toList = cbs N n) (hn : pc + 1 ≤ n) (h0 : Nat.shiftRight N (8 * pc) % 256 = 45) : decode c pc = .ok (.aload_n 3, 1) := dec_of (by
  show ((Reader.u1 : Decoder Nat) c pc).bind _ = _
  rw [rdb_u1 (rdb_of k (by omega) h0)]
  rfl)
theorem op_46 {c : ByteArray} {N n pc : Nat} (k : c.data.toList = cbs N n) (hn : pc + 1 ≤ n) (h0 : Nat.shiftRight N (8 * pc) % 256 = 46) : decode c pc = .ok (.iaload, 1) := dec_of (by
  show ((Reader.u1 : Decoder Nat) c pc).bind _ = _
  rw [rdb_u1 (rdb_of k (by omega) h0)]
  rfl)
theorem op_47 {c : ByteArray} {N n pc : Nat} (k : c.data.toList = cbs N n) (hn : pc + 1 ≤ n) (h0 : Nat.shiftRight N (8 * pc) % 256 = 47) : decode c pc = .ok (.laload, 1) := dec_of (by
  show ((Reader.u1 : Decoder Nat) c pc).bind _ = _
  rw [rdb_u1 (rdb_of k (by omega) h0)]
  rfl)
theorem op_50 {c : ByteArray} {N n pc : Nat} (k : c.data.toList = cbs N n) (hn : pc + 1 ≤ n) (h0 : Nat.shiftRight N (8 * pc) % 256 = 50) : decode c pc = .ok (.aaload, 1) := dec_of (by
  show ((Reader.u1 : Decoder Nat) c pc).bind _ = _
  rw [rdb_u1 (rdb_of k (by omega) h0)]
  rfl)
theorem op_51 {c : ByteArray} {N n pc : Nat} (k : c.data.toList = cbs N n) (hn : pc + 1 ≤ n) (h0 : Nat.shiftRight N (8 * pc) % 256 = 51) : decode c pc = .ok (.baload, 1) := dec_of (by
  show ((Reader.u1 : Decoder Nat) c pc).bind _ = _
  rw [rdb_u1 (rdb_of k (by omega) h0)]
  rfl)
theorem op_54 {c : ByteArray} {N n pc a : Nat} (k : c.data.toList = cbs N n) (hn : pc + 2 ≤ n) (h0 : Nat.shiftRight N (8 * pc) % 256 = 54) (h1 : Nat.shiftRight N (8 * (pc + 1)) % 256 = a) : decode c pc = .ok (.istore a, 2) := dec_of (by
  show ((Reader.u1 : Decoder Nat) c pc).bind _ = _
  rw [rdb_u1 (rdb_of k (by omega) h0)]
  show ((Reader.u1 : Decoder Nat) c (pc + 1)).bind _ = _
  rw [rdb_u1 (rdb_of k (by omega) h1)]
  rfl)
theorem op_55 {c : ByteArray} {N n pc a : Nat} (k : c.data.toList = cbs N n) (hn : pc + 2 ≤ n) (h0 : Nat.shiftRight N (8 * pc) % 256 = 55) (h1 : Nat.shiftRight N (8 * (pc + 1)) % 256 = a) : decode c pc = .ok (.lstore a, 2) := dec_of (by
  show ((Reader.u1 : Decoder Nat) c pc).bind _ = _
  rw [rdb_u1 (rdb_of k (by omega) h0)]
  show ((Reader.u1 : Decoder Nat) c (pc + 1)).bind _ = _
  rw [rdb_u1 (rdb_of k (by omega) h1)]
  rfl)
theorem op_58 {c : ByteArray} {N n pc a : Nat} (k : c.data.toList = cbs N n) (hn : pc + 2 ≤ n) (h0 : Nat.shiftRight N (8 * pc) % 256 = 58) (h1 : Nat.shiftRight N (8 * (pc + 1)) % 256 = a) : decode c pc = .ok (.astore a, 2) := dec_of (by
  show ((Reader.u1 : Decoder Nat) c pc).bind _ = _
  rw [rdb_u1 (rdb_of k (by omega) h0)]
  show ((Reader.u1 : Decoder Nat) c (pc + 1)).bind _ = _
  rw [rdb_u1 (rdb_of k (by omega) h1)]
  rfl)
theorem op_59 {c : ByteArray} {N n pc : Nat} (k : c.data.toList = cbs N n) (hn : pc + 1 ≤ n) (h0 : Nat.shiftRight N (8 * pc) % 256 = 59) : decode c pc = .ok (.istore_n 0, 1) := dec_of (by
  show ((Reader.u1 : Decoder Nat) c pc).bind _ = _
  rw [rdb_u1 (rdb_of k (by omega) h0)]
  rfl)
theorem op_60 {c : ByteArray} {N n pc : Nat} (k : c.data.toList = cbs N n) (hn : pc + 1 ≤ n) (h0 : Nat.shiftRight N (8 * pc) % 256 = 60) : decode c pc = .ok (.istore_n 1, 1) := dec_of (by
  show ((Reader.u1 : Decoder Nat) c pc).bind _ = _
  rw [rdb_u1 (rdb_of k (by omega) h0)]
  rfl)
theorem op_61 {c : ByteArray} {N n pc : Nat} (k : c.data.toList = cbs N n) (hn : pc + 1 ≤ n) (h0 : Nat.shiftRight N (8 * pc) % 256 = 61) : decode c pc = .ok (.istore_n 2, 1) := dec_of (by
  show ((Reader.u1 : Decoder Nat) c pc).bind _ = _
  rw [rdb_u1 (rdb_of k (by omega) h0)]
  rfl)
theorem op_62 {c : ByteArray} {N n pc : Nat} (k : c.data.toList = cbs N n) (hn : pc + 1 ≤ n) (h0 : Nat.shiftRight N (8 * pc) % 256 = 62) : decode c pc = .ok (.istore_n 3, 1) := dec_of (by
  show ((Reader.u1 : Decoder Nat) c pc).bind _ = _
  rw [rdb_u1 (rdb_of k (by omega) h0)]
  rfl)
theorem op_64 {c : ByteArray} {N n pc : Nat} (k : c.data.toList = cbs N n) (hn : pc + 1 ≤ n) (h0 : Nat.shiftRight N (8 * pc) % 256 = 64) : decode c pc = .ok (.lstore_n 1, 1) := dec_of (by
  show ((Reader.u1 : Decoder Nat) c pc).bind _ = _
  rw [rdb_u1 (rdb_of k (by omega) h0)]
  rfl)
theorem op_65 {c : ByteArray} {N n pc : Nat} (k : c.data.toList = cbs N n) (hn : pc + 1 ≤ n) (h0 : Nat.shiftRight N (8 * pc) % 256 = 65) : decode c pc = .ok (.lstore_n 2, 1) := dec_of (by
  show ((Reader.u1 : Decoder Nat) c pc).bind _ = _
  rw [rdb_u1 (rdb_of k (by omega) h0)]
  rfl)
theorem op_66 {c : ByteArray} {N n pc : Nat} (k : c.data.toList = cbs N n) (hn : pc + 1 ≤ n) (h0 : Nat.shiftRight N (8 * pc) % 256 = 66) : decode c pc = .ok (.lstore_n 3, 1) := dec_of (by
  show ((Reader.u1 : Decoder Nat) c pc).bind _ = _
  rw [rdb_u1 (rdb_of k (by omega) h0)]
  rfl)
theorem op_76 {c : ByteArray} {N n pc : Nat} (k : c.data.toList = cbs N n) (hn : pc + 1 ≤ n) (h0 : Nat.shiftRight N (8 * pc) % 256 = 76) : decode c pc = .ok (.astore_n 1, 1) := dec_of (by
  show ((Reader.u1 : Decoder Nat) c pc).bind _ = _
  rw [rdb_u1 (rdb_of k (by omega) h0)]
  rfl)
theorem op_77 {c : ByteArray} {N n pc : Nat} (k : c.data.toList = cbs N n) (hn : pc + 1 ≤ n) (h0 : Nat.shiftRight N (8 * pc) % 256 = 77) : decode c pc = .ok (.astore_n 2, 1) := dec_of (by
  show ((Reader.u1 : Decoder Nat) c pc).bind _ = _
  rw [rdb_u1 (rdb_of k (by omega) h0)]
  rfl)
theorem op_79 {c : ByteArray} {N n pc : Nat} (k : c.data.toList = cbs N n) (hn : pc + 1 ≤ n) (h0 : Nat.shiftRight N (8 * pc) % 256 = 79) : decode c pc = .ok (.iastore, 1) := dec_of (by
  show ((Reader.u1 : Decoder Nat) c pc).bind _ = _
  rw [rdb_u1 (rdb_of k (by omega) h0)]
  rfl)
theorem op_80 {c : ByteArray} {N n pc : Nat} (k : c.data.toList = cbs N n) (hn : pc + 1 ≤ n) (h0 : Nat.shiftRight N (8 * pc) % 256 = 80) : decode c pc = .ok (.lastore, 1) := dec_of (by
  show ((Reader.u1 : Decoder Nat) c pc).bind _ = _
  rw [rdb_u1 (rdb_of k (by omega) h0)]
  rfl)
theorem op_83 {c : ByteArray} {N n pc : Nat} (k : c.data.toList = cbs N n) (hn : pc + 1 ≤ n) (h0 : Nat.shiftRight N (8 * pc) % 256 = 83) : decode c pc = .ok (.aastore, 1) := dec_of (by
  show ((Reader.u1 : Decoder Nat) c pc).bind _ = _
  rw [rdb_u1 (rdb_of k (by omega) h0)]
  rfl)
theorem op_84 {c : ByteArray} {N n pc : Nat} (k : c.data.toList = cbs N n) (hn : pc + 1 ≤ n) (h0 : Nat.shiftRight N (8 * pc) % 256 = 84) : decode c pc = .ok (.bastore, 1) := dec_of (by
  show ((Reader.u1 : Decoder Nat) c pc).bind _ = _
  rw [rdb_u1 (rdb_of k (by omega) h0)]
  rfl)
theorem op_87 {c : ByteArray} {N n pc : Nat} (k : c.data.toList = cbs N n) (hn : pc + 1 ≤ n) (h0 : Nat.shiftRight N (8 * pc) % 256 = 87) : decode c pc = .ok (.pop, 1) := dec_of (by
  show ((Reader.u1 : Decoder Nat) c pc).bind _ = _
  rw [rdb_u1 (rdb_of k (by omega) h0)]
  rfl)
theorem op_88 {c : ByteArray} {N n pc : Nat} (k : c.data.toList = cbs N n) (hn : pc + 1 ≤ n) (h0 : Nat.shiftRight N (8 * pc) % 256 = 88) : decode c pc = .ok (.pop2, 1) := dec_of (by
  show ((Reader.u1 : Decoder Nat) c pc).bind _ = _
  rw [rdb_u1 (rdb_of k (by omega) h0)]
  rfl)
theorem op_89 {c : ByteArray} {N n pc : Nat} (k : c.data.toList = cbs N n) (hn : pc + 1 ≤ n) (h0 : Nat.shiftRight N (8 * pc) % 256 = 89) : decode c pc = .ok (.dup, 1) := dec_of (by
  show ((Reader.u1 : Decoder Nat) c pc).bind _ = _
  rw [rdb_u1 (rdb_of k (by omega) h0)]
  rfl)
theorem op_92 {c : ByteArray} {N n pc : Nat} (k : c.data.toList = cbs N n) (hn : pc + 1 ≤ n) (h0 : Nat.shiftRight N (8 * pc) % 256 = 92) : decode c pc = .ok (.dup2, 1) := dec_of (by
  show ((Reader.u1 : Decoder Nat) c pc).bind _ = _
  rw [rdb_u1 (rdb_of k (by omega) h0)]
  rfl)
theorem op_96 {c : ByteArray} {N n pc : Nat} (k : c.data.toList = cbs N n) (hn : pc + 1 ≤ n) (h0 : Nat.shiftRight N (8 * pc) % 256 = 96) : decode c pc = .ok (.iadd, 1) := dec_of (by
  show ((Reader.u1 : Decoder Nat) c pc).bind _ = _
  rw [rdb_u1 (rdb_of k (by omega) h0)]
  rfl)
theorem op_97 {c : ByteArray} {N n pc : Nat} (k : c.data.toList = cbs N n) (hn : pc + 1 ≤ n) (h0 : Nat.shiftRight N (8 * pc) % 256 = 97) : decode c pc = .ok (.ladd, 1) := dec_of (by
  show ((Reader.u1 : Decoder Nat) c pc).bind _ = _
  rw [rdb_u1 (rdb_of k (by omega) h0)]
  rfl)
theorem op_100 {c : ByteArray} {N n pc : Nat} (k : c.data.toList = cbs N n) (hn : pc + 1 ≤ n) (h0 : Nat.shiftRight N (8 * pc) % 256 = 100) : decode c pc = .ok (.isub, 1) := dec_of (by
  show ((Reader.u1 : Decoder Nat) c pc).bind _ = _
  rw [rdb_u1 (rdb_of k (by omega) h0)]
  rfl)
theorem op_101 {c : ByteArray} {N n pc : Nat} (k : c.data.toList = cbs N n) (hn : pc + 1 ≤ n) (h0 : Nat.shiftRight N (8 * pc) % 256 = 101) : decode c pc = .ok (.lsub, 1) := dec_of (by
  show ((Reader.u1 : Decoder Nat) c pc).bind _ = _
  rw [rdb_u1 (rdb_of k (by omega) h0)]
  rfl)
theorem op_104 {c : ByteArray} {N n pc : Nat} (k : c.data.toList = cbs N n) (hn : pc + 1 ≤ n) (h0 : Nat.shiftRight N (8 * pc) % 256 = 104) : decode c pc = .ok (.imul, 1) := dec_of (by
  show ((Reader.u1 : Decoder Nat) c pc).bind _ = _
  rw [rdb_u1 (rdb_of k (by omega) h0)]
  rfl)
theorem op_105 {c : ByteArray} {N n pc : Nat} (k : c.data.toList = cbs N n) (hn : pc + 1 ≤ n) (h0 : Nat.shiftRight N (8 * pc) % 256 = 105) : decode c pc = .ok (.lmul, 1) := dec_of (by
  show ((Reader.u1 : Decoder Nat) c pc).bind _ = _
  rw [rdb_u1 (rdb_of k (by omega) h0)]
  rfl)
theorem op_108 {c : ByteArray} {N n pc : Nat} (k : c.data.toList = cbs N n) (hn : pc + 1 ≤ n) (h0 : Nat.shiftRight N (8 * pc) % 256 = 108) : decode c pc = .ok (.idiv, 1) := dec_of (by
  show ((Reader.u1 : Decoder Nat) c pc).bind _ = _
  rw [rdb_u1 (rdb_of k (by omega) h0)]
  rfl)
theorem op_109 {c : ByteArray} {N n pc : Nat} (k : c.data.toList = cbs N n) (hn : pc + 1 ≤ n) (h0 : Nat.shiftRight N (8 * pc) % 256 = 109) : decode c pc = .ok (.ldiv, 1) := dec_of (by
  show ((Reader.u1 : Decoder Nat) c pc).bind _ = _
  rw [rdb_u1 (rdb_of k (by omega) h0)]
  rfl)
theorem op_112 {c : ByteArray} {N n pc : Nat} (k : c.data.toList = cbs N n) (hn : pc + 1 ≤ n) (h0 : Nat.shiftRight N (8 * pc) % 256 = 112) : decode c pc = .ok (.irem, 1) := dec_of (by
  show ((Reader.u1 : Decoder Nat) c pc).bind _ = _
  rw [rdb_u1 (rdb_of k (by omega) h0)]
  rfl)
theorem op_113 {c : ByteArray} {N n pc : Nat} (k : c.data.toList = cbs N n) (hn : pc + 1 ≤ n) (h0 : Nat.shiftRight N (8 * pc) % 256 = 113) : decode c pc = .ok (.lrem, 1) := dec_of (by
  show ((Reader.u1 : Decoder Nat) c pc).bind _ = _
  rw [rdb_u1 (rdb_of k (by omega) h0)]
  rfl)
theorem op_120 {c : ByteArray} {N n pc : Nat} (k : c.data.toList = cbs N n) (hn : pc + 1 ≤ n) (h0 : Nat.shiftRight N (8 * pc) % 256 = 120) : decode c pc = .ok (.ishl, 1) := dec_of (by
  show ((Reader.u1 : Decoder Nat) c pc).bind _ = _
  rw [rdb_u1 (rdb_of k (by omega) h0)]
  rfl)
theorem op_121 {c : ByteArray} {N n pc : Nat} (k : c.data.toList = cbs N n) (hn : pc + 1 ≤ n) (h0 : Nat.shiftRight N (8 * pc) % 256 = 121) : decode c pc = .ok (.lshl, 1) := dec_of (by
  show ((Reader.u1 : Decoder Nat) c pc).bind _ = _
  rw [rdb_u1 (rdb_of k (by omega) h0)]
  rfl)
theorem op_122 {c : ByteArray} {N n pc : Nat} (k : c.data.toList = cbs N n) (hn : pc + 1 ≤ n) (h0 : Nat.shiftRight N (8 * pc) % 256 = 122) : decode c pc = .ok (.ishr, 1) := dec_of (by
  show ((Reader.u1 : Decoder Nat) c pc).bind _ = _
  rw [rdb_u1 (rdb_of k (by omega) h0)]
  rfl)
theorem op_123 {c : ByteArray} {N n pc : Nat} (k : c.data.toList = cbs N n) (hn : pc + 1 ≤ n) (h0 : Nat.shiftRight N (8 * pc) % 256 = 123) : decode c pc = .ok (.lshr, 1) := dec_of (by
  show ((Reader.u1 : Decoder Nat) c pc).bind _ = _
  rw [rdb_u1 (rdb_of k (by omega) h0)]
  rfl)
theorem op_124 {c : ByteArray} {N n pc : Nat} (k : c.data.toList = cbs N n) (hn : pc + 1 ≤ n) (h0 : Nat.shiftRight N (8 * pc) % 256 = 124) : decode c pc = .ok (.iushr, 1) := dec_of (by
  show ((Reader.u1 : Decoder Nat) c pc).bind _ = _
  rw [rdb_u1 (rdb_of k (by omega) h0)]
  rfl)
theorem op_126 {c : ByteArray} {N n pc : Nat} (k : c.data.toList = cbs N n) (hn : pc + 1 ≤ n) (h0 : Nat.shiftRight N (8 * pc) % 256 = 126) : decode c pc = .ok (.iand, 1) := dec_of (by
  show ((Reader.u1 : Decoder Nat) c pc).bind _ = _
  rw [rdb_u1 (rdb_of k (by omega) h0)]
  rfl)
theorem op_127 {c : ByteArray} {N n pc : Nat} (k : c.data.toList = cbs N n) (hn : pc + 1 ≤ n) (h0 : Nat.shiftRight N (8 * pc) % 256 = 127) : decode c pc = .ok (.land, 1) := dec_of (by
  show ((Reader.u1 : Decoder Nat) c pc).bind _ = _
  rw [rdb_u1 (rdb_of k (by omega) h0)]
  rfl)
theorem op_128 {c : ByteArray} {N n pc : Nat} (k : c.data.toList = cbs N n) (hn : pc + 1 ≤ n) (h0 : Nat.shiftRight N (8 * pc) % 256 = 128) : decode c pc = .ok (.ior, 1) := dec_of (by
  show ((Reader.u1 : Decoder Nat) c pc).bind _ = _
  rw [rdb_u1 (rdb_of k (by omega) h0)]
  rfl)
theorem op_129 {c : ByteArray} {N n pc : Nat} (k : c.data.toList = cbs N n) (hn : pc + 1 ≤ n) (h0 : Nat.shiftRight N (8 * pc) % 256 = 129) : decode c pc = .ok (.lor, 1) := dec_of (by
  show ((Reader.u1 : Decoder Nat) c pc).bind _ = _
  rw [rdb_u1 (rdb_of k (by omega) h0)]
  rfl)
theorem op_130 {c : ByteArray} {N n pc : Nat} (k : c.data.toList = cbs N n) (hn : pc + 1 ≤ n) (h0 : Nat.shiftRight N (8 * pc) % 256 = 130) : decode c pc = .ok (.ixor, 1) := dec_of (by
  show ((Reader.u1 : Decoder Nat) c pc).bind _ = _
  rw [rdb_u1 (rdb_of k (by omega) h0)]
  rfl)
theorem op_133 {c : ByteArray} {N n pc : Nat} (k : c.data.toList = cbs N n) (hn : pc + 1 ≤ n) (h0 : Nat.shiftRight N (8 * pc) % 256 = 133) : decode c pc = .ok (.i2l, 1) := dec_of (by
  show ((Reader.u1 : Decoder Nat) c pc).bind _ = _
  rw [rdb_u1 (rdb_of k (by omega) h0)]
  rfl)
theorem op_136 {c : ByteArray} {N n pc : Nat} (k : c.data.toList = cbs N n) (hn : pc + 1 ≤ n) (h0 : Nat.shiftRight N (8 * pc) % 256 = 136) : decode c pc = .ok (.l2i, 1) := dec_of (by
  show ((Reader.u1 : Decoder Nat) c pc).bind _ = _
  rw [rdb_u1 (rdb_of k (by omega) h0)]
  rfl)
theorem op_145 {c : ByteArray} {N n pc : Nat} (k : c.data.toList = cbs N n) (hn : pc + 1 ≤ n) (h0 : Nat.shiftRight N (8 * pc) % 256 = 145) : decode c pc = .ok (.i2b, 1) := dec_of (by
  show ((Reader.u1 : Decoder Nat) c pc).bind _ = _
  rw [rdb_u1 (rdb_of k (by omega) h0)]
  rfl)
theorem op_146 {c : ByteArray} {N n pc : Nat} (k : c.data.toList = cbs N n) (hn : pc + 1 ≤ n) (h0 : Nat.shiftRight N (8 * pc) % 256 = 146) : decode c pc = .ok (.i2c, 1) := dec_of (by
  show ((Reader.u1 : Decoder Nat) c pc).bind _ = _
  rw [rdb_u1 (rdb_of k (by omega) h0)]
  rfl)
theorem op_147 {c : ByteArray} {N n pc : Nat} (k : c.data.toList = cbs N n) (hn : pc + 1 ≤ n) (h0 : Nat.shiftRight N (8 * pc) % 256 = 147) : decode c pc = .ok (.i2s, 1) := dec_of (by
  show ((Reader.u1 : Decoder Nat) c pc).bind _ = _
  rw [rdb_u1 (rdb_of k (by omega) h0)]
  rfl)
theorem op_148 {c : ByteArray} {N n pc : Nat} (k : c.data.toList = cbs N n) (hn : pc + 1 ≤ n) (h0 : Nat.shiftRight N (8 * pc) % 256 = 148) : decode c pc = .ok (.lcmp, 1) := dec_of (by
  show ((Reader.u1 : Decoder Nat) c pc).bind _ = _
  rw [rdb_u1 (rdb_of k (by omega) h0)]
  rfl)
theorem op_153 {c : ByteArray} {N n pc a b : Nat} {z : Int} (k : c.data.toList = cbs N n) (hn : pc + 3 ≤ n) (h0 : Nat.shiftRight N (8 * pc) % 256 = 153) (h1 : Nat.shiftRight N (8 * (pc + 1)) % 256 = a) (h2 : Nat.shiftRight N (8 * (pc + 2)) % 256 = b) (hz : Reader.signed 16 (a * 256 + b) = z) : decode c pc = .ok (.ifCond .eq z, 3) := dec_of (by
  show ((Reader.u1 : Decoder Nat) c pc).bind _ = _
  rw [rdb_u1 (rdb_of k (by omega) h0)]
  show ((Reader.s2 : Decoder Int) c (pc + 1)).bind _ = _
  rw [rdb_s2 (rdb_of k (by omega) h1) (rdb_of k (by omega) h2), hz]
  rfl)
theorem op_154 {c : ByteArray} {N n pc a b : Nat} {z : Int} (k : c.data.toList = cbs N n) (hn : pc + 3 ≤ n) (h0 : Nat.shiftRight N (8 * pc) % 256 = 154) (h1 : Nat.shiftRight N (8 * (pc + 1)) % 256 = a) (h2 : Nat.shiftRight N (8 * (pc + 2)) % 256 = b) (hz : Reader.signed 16 (a * 256 + b) = z) : decode c pc = .ok (.ifCond .ne z, 3) := dec_of (by
  show ((Reader.u1 : Decoder Nat) c pc).bind _ = _
  rw [rdb_u1 (rdb_of k (by omega) h0)]
  show ((Reader.s2 : Decoder Int) c (pc + 1)).bind _ = _
  rw [rdb_s2 (rdb_of k (by omega) h1) (rdb_of k (by omega) h2), hz]
  rfl)
theorem op_155 {c : ByteArray} {N n pc a b : Nat} {z : Int} (k : c.data.toList = cbs N n) (hn : pc + 3 ≤ n) (h0 : Nat.shiftRight N (8 * pc) % 256 = 155) (h1 : Nat.shiftRight N (8 * (pc + 1)) % 256 = a) (h2 : Nat.shiftRight N (8 * (pc + 2)) % 256 = b) (hz : Reader.signed 16 (a * 256 + b) = z) : decode c pc = .ok (.ifCond .lt z, 3) := dec_of (by
  show ((Reader.u1 : Decoder Nat) c pc).bind _ = _
  rw [rdb_u1 (rdb_of k (by omega) h0)]
  show ((Reader.s2 : Decoder Int) c (pc + 1)).bind _ = _
  rw [rdb_s2 (rdb_of k (by omega) h1) (rdb_of k (by omega) h2), hz]
  rfl)
theorem op_156 {c : ByteArray} {N n pc a b : Nat} {z : Int} (k : c.data.toList = cbs N n) (hn : pc + 3 ≤ n) (h0 : Nat.shiftRight N (8 * pc) % 256 = 156) (h1 : Nat.shiftRight N (8 * (pc + 1)) % 256 = a) (h2 : Nat.shiftRight N (8 * (pc + 2)) % 256 = b) (hz : Reader.signed 16 (a * 256 + b) = z) : decode c pc = .ok (.ifCond .ge z, 3) := dec_of (by
  show ((Reader.u1 : Decoder Nat) c pc).bind _ = _
  rw [rdb_u1 (rdb_of k (by omega) h0)]
  show ((Reader.s2 : Decoder Int) c (pc + 1)).bind _ = _
  rw [rdb_s2 (rdb_of k (by omega) h1) (rdb_of k (by omega) h2), hz]
  rfl)
theorem op_157 {c : ByteArray} {N n pc a b : Nat} {z : Int} (k : c.data.toList = cbs N n) (hn : pc + 3 ≤ n) (h0 : Nat.shiftRight N (8 * pc) % 256 = 157) (h1 : Nat.shiftRight N (8 * (pc + 1)) % 256 = a) (h2 : Nat.shiftRight N (8 * (pc + 2)) % 256 = b) (hz : Reader.signed 16 (a * 256 + b) = z) : decode c pc = .ok (.ifCond .gt z, 3) := dec_of (by
  show ((Reader.u1 : Decoder Nat) c pc).bind _ = _
  rw [rdb_u1 (rdb_of k (by omega) h0)]
  show ((Reader.s2 : Decoder Int) c (pc + 1)).bind _ = _
  rw [rdb_s2 (rdb_of k (by omega) h1) (rdb_of k (by omega) h2), hz]
  rfl)
theorem op_158 {c : ByteArray} {N n pc a b : Nat} {z : Int} (k : c.data.toList = cbs N n) (hn : pc + 3 ≤ n) (h0 : Nat.shiftRight N (8 * pc) % 256 = 158) (h1 : Nat.shiftRight N (8 * (pc + 1)) % 256 = a) (h2 : Nat.shiftRight N (8 * (pc + 2)) % 256 = b) (hz : Reader.signed 16 (a * 256 + b) = z) : decode c pc = .ok (.ifCond .le z, 3) := dec_of (by
  show ((Reader.u1 : Decoder Nat) c pc).bind _ = _
  rw [rdb_u1 (rdb_of k (by omega) h0)]
  show ((Reader.s2 : Decoder Int) c (pc + 1)).bind _ = _
  rw [rdb_s2 (rdb_of k (by omega) h1) (rdb_of k (by omega) h2), hz]
  rfl)
theorem op_159 {c : ByteArray} {N n pc a b : Nat} {z : Int} (k : c.data.toList = cbs N n) (hn : pc + 3 ≤ n) (h0 : Nat.shiftRight N (8 * pc) % 256 = 159) (h1 : Nat.shiftRight N (8 * (pc + 1)) % 256 = a) (h2 : Nat.shiftRight N (8 * (pc + 2)) % 256 = b) (hz : Reader.signed 16 (a * 256 + b) = z) : decode c pc = .ok (.if_icmp .eq z, 3) := dec_of (by
  show ((Reader.u1 : Decoder Nat) c pc).bind _ = _
  rw [rdb_u1 (rdb_of k (by omega) h0)]
  show ((Reader.s2 : Decoder Int) c (pc + 1)).bind _ = _
  rw [rdb_s2 (rdb_of k (by omega) h1) (rdb_of k (by omega) h2), hz]
  rfl)
theorem op_160 {c : ByteArray} {N n pc a b : Nat} {z : Int} (k : c.data.toList = cbs N n) (hn : pc + 3 ≤ n) (h0 : Nat.shiftRight N (8 * pc) % 256 = 160) (h1 : Nat.shiftRight N (8 * (pc + 1)) % 256 = a) (h2 : Nat.shiftRight N (8 * (pc + 2)) % 256 = b) (hz : Reader.signed 16 (a * 256 + b) = z) : decode c pc = .ok (.if_icmp .ne z, 3) := dec_of (by
  show ((Reader.u1 : Decoder Nat) c pc).bind _ = _
  rw [rdb_u1 (rdb_of k (by omega) h0)]
  show ((Reader.s2 : Decoder Int) c (pc + 1)).bind _ = _
  rw [rdb_s2 (rdb_of k (by omega) h1) (rdb_of k (by omega) h2), hz]
  rfl)
theorem op_161 {c : ByteArray} {N n pc a b : Nat} {z : Int} (k : c.data.toList = cbs N n) (hn : pc + 3 ≤ n) (h0 : Nat.shiftRight N (8 * pc) % 256 = 161) (h1 : Nat.shiftRight N (8 * (pc + 1)) % 256 = a) (h2 : Nat.shiftRight N (8 * (pc + 2)) % 256 = b) (hz : Reader.signed 16 (a * 256 + b) = z) : decode c pc = .ok (.if_icmp .lt z, 3) := dec_of (by
  show ((Reader.u1 : Decoder Nat) c pc).bind _ = _
  rw [rdb_u1 (rdb_of k (by omega) h0)]
  show ((Reader.s2 : Decoder Int) c (pc + 1)).bind _ = _
  rw [rdb_s2 (rdb_of k (by omega) h1) (rdb_of k (by omega) h2), hz]
  rfl)
theorem op_162 {c : ByteArray} {N n pc a b : Nat} {z : Int} (k : c.data.toList = cbs N n) (hn : pc + 3 ≤ n) (h0 : Nat.shiftRight N (8 * pc) % 256 = 162) (h1 : Nat.shiftRight N (8 * (pc + 1)) % 256 = a) (h2 : Nat.shiftRight N (8 * (pc + 2)) % 256 = b) (hz : Reader.signed 16 (a * 256 + b) = z) : decode c pc = .ok (.if_icmp .ge z, 3) := dec_of (by
  show ((Reader.u1 : Decoder Nat) c pc).bind _ = _
  rw [rdb_u1 (rdb_of k (by omega) h0)]
  show ((Reader.s2 : Decoder Int) c (pc + 1)).bind _ = _
  rw [rdb_s2 (rdb_of k (by omega) h1) (rdb_of k (by omega) h2), hz]
  rfl)
theorem op_163 {c : ByteArray} {N n pc a b : Nat} {z : Int} (k : c.data.toList = cbs N n) (hn : pc + 3 ≤ n) (h0 : Nat.shiftRight N (8 * pc) % 256 = 163) (h1 : Nat.shiftRight N (8 * (pc + 1)) % 256 = a) (h2 : Nat.shiftRight N (8 * (pc + 2)) % 256 = b) (hz : Reader.signed 16 (a * 256 + b) = z) : decode c pc = .ok (.if_icmp .gt z, 3) := dec_of (by
  show ((Reader.u1 : Decoder Nat) c pc).bind _ = _
  rw [rdb_u1 (rdb_of k (by omega) h0)]
  show ((Reader.s2 : Decoder Int) c (pc + 1)).bind _ = _
  rw [rdb_s2 (rdb_of k (by omega) h1) (rdb_of k (by omega) h2), hz]
  rfl)
theorem op_164 {c : ByteArray} {N n pc a b : Nat} {z : Int} (k : c.data.toList = cbs N n) (hn : pc + 3 ≤ n) (h0 : Nat.shiftRight N (8 * pc) % 256 = 164) (h1 : Nat.shiftRight N (8 * (pc + 1)) % 256 = a) (h2 : Nat.shiftRight N (8 * (pc + 2)) % 256 = b) (hz : Reader.signed 16 (a * 256 + b) = z) : decode c pc = .ok (.if_icmp .le z, 3) := dec_of (by
  show ((Reader.u1 : Decoder Nat) c pc).bind _ = _
  rw [rdb_u1 (rdb_of k (by omega) h0)]
  show ((Reader.s2 : Decoder Int) c (pc + 1)).bind _ = _
  rw [rdb_s2 (rdb_of k (by omega) h1) (rdb_of k (by omega) h2), hz]
  rfl)
theorem op_167 {c : ByteArray} {N n pc a b : Nat} {z : Int} (k : c.data.toList = cbs N n) (hn : pc + 3 ≤ n) (h0 : Nat.shiftRight N (8 * pc) % 256 = 167) (h1 : Nat.shiftRight N (8 * (pc + 1)) % 256 = a) (h2 : Nat.shiftRight N (8 * (pc + 2)) % 256 = b) (hz : Reader.signed 16 (a * 256 + b) = z) : decode c pc = .ok (.goto z, 3) := dec_of (by
  show ((Reader.u1 : Decoder Nat) c pc).bind _ = _
  rw [rdb_u1 (rdb_of k (by omega) h0)]
  show ((Reader.s2 : Decoder Int) c (pc + 1)).bind _ = _
  rw [rdb_s2 (rdb_of k (by omega) h1) (rdb_of k (by omega) h2), hz]
  rfl)
theorem op_172 {c : ByteArray} {N n pc : Nat} (k : c.data.toList = cbs N n) (hn : pc + 1 ≤ n) (h0 : Nat.shiftRight N (8 * pc) % 256 = 172) : decode c pc = .ok (.ireturn, 1) := dec_of (by
  show ((Reader.u1 : Decoder Nat) c pc).bind _ = _
  rw [rdb_u1 (rdb_of k (by omega) h0)]
  rfl)
theorem op_173 {c : ByteArray} {N n pc : Nat} (k : c.data.toList = cbs N n) (hn : pc + 1 ≤ n) (h0 : Nat.shiftRight N (8 * pc) % 256 = 173) : decode c pc = .ok (.lreturn, 1) := dec_of (by
  show ((Reader.u1 : Decoder Nat) c pc).bind _ = _
  rw [rdb_u1 (rdb_of k (by omega) h0)]
  rfl)
theorem op_176 {c : ByteArray} {N n pc : Nat} (k : c.data.toList = cbs N n) (hn : pc + 1 ≤ n) (h0 : Nat.shiftRight N (8 * pc) % 256 = 176) : decode c pc = .ok (.areturn, 1) := dec_of (by
  show ((Reader.u1 : Decoder Nat) c pc).bind _ = _
  rw [rdb_u1 (rdb_of k (by omega) h0)]
  rfl)
theorem op_177 {c : ByteArray} {N n pc : Nat} (k : c.data.toList = cbs N n) (hn : pc + 1 ≤ n) (h0 : Nat.shiftRight N (8 * pc) % 256 = 177) : decode c pc = .ok (.return_, 1) := dec_of (by
  show ((Reader.u1 : Decoder Nat) c pc).bind _ = _
  rw [rdb_u1 (rdb_of k (by omega) h0)]
  rfl)
theorem op_178 {c : ByteArray} {N n pc a b : Nat} (k : c.data.toList = cbs N n) (hn : pc + 3 ≤ n) (h0 : Nat.shiftRight N (8 * pc) % 256 = 178) (h1 : Nat.shiftRight N (8 * (pc + 1)) % 256 = a) (h2 : Nat.shiftRight N (8 * (pc + 2)) % 256 = b) : decode c pc = .ok (.getstatic (a * 256 + b), 3) := dec_of (by
  show ((Reader.u1 : Decoder Nat) c pc).bind _ = _
  rw [rdb_u1 (rdb_of k (by omega) h0)]
  show ((Reader.u2 : Decoder Nat) c (pc + 1)).bind _ = _
  rw [rdb_u2 (rdb_of k (by omega) h1) (rdb_of k (by omega) h2)]
  rfl)
theorem op_180 {c : ByteArray} {N n pc a b : Nat} (k : c.data.toList = cbs N n) (hn : pc + 3 ≤ n) (h0 : Nat.shiftRight N (8 * pc) % 256 = 180) (h1 : Nat.shiftRight N (8 * (pc + 1)) % 256 = a) (h2 : Nat.shiftRight N (8 * (pc + 2)) % 256 = b) : decode c pc = .ok (.getfield (a * 256 + b), 3) := dec_of (by
  show ((Reader.u1 : Decoder Nat) c pc).bind _ = _
  rw [rdb_u1 (rdb_of k (by omega) h0)]
  show ((Reader.u2 : Decoder Nat) c (pc + 1)).bind _ = _
  rw [rdb_u2 (rdb_of k (by omega) h1) (rdb_of k (by omega) h2)]
  rfl)
theorem op_181 {c : ByteArray} {N n pc a b : Nat} (k : c.data.toList = cbs N n) (hn : pc + 3 ≤ n) (h0 : Nat.shiftRight N (8 * pc) % 256 = 181) (h1 : Nat.shiftRight N (8 * (pc + 1)) % 256 = a) (h2 : Nat.shiftRight N (8 * (pc + 2)) % 256 = b) : decode c pc = .ok (.putfield (a * 256 + b), 3) := dec_of (by
  show ((Reader.u1 : Decoder Nat) c pc).bind _ = _
  rw [rdb_u1 (rdb_of k (by omega) h0)]
  show ((Reader.u2 : Decoder Nat) c (pc + 1)).bind _ = _
  rw [rdb_u2 (rdb_of k (by omega) h1) (rdb_of k (by omega) h2)]
  rfl)
theorem op_182 {c : ByteArray} {N n pc a b : Nat} (k : c.data.toList = cbs N n) (hn : pc + 3 ≤ n) (h0 : Nat.shiftRight N (8 * pc) % 256 = 182) (h1 : Nat.shiftRight N (8 * (pc + 1)) % 256 = a) (h2 : Nat.shiftRight N (8 * (pc + 2)) % 256 = b) : decode c pc = .ok (.invokevirtual (a * 256 + b), 3) := dec_of (by
  show ((Reader.u1 : Decoder Nat) c pc).bind _ = _
  rw [rdb_u1 (rdb_of k (by omega) h0)]
  show ((Reader.u2 : Decoder Nat) c (pc + 1)).bind _ = _
  rw [rdb_u2 (rdb_of k (by omega) h1) (rdb_of k (by omega) h2)]
  rfl)
theorem op_183 {c : ByteArray} {N n pc a b : Nat} (k : c.data.toList = cbs N n) (hn : pc + 3 ≤ n) (h0 : Nat.shiftRight N (8 * pc) % 256 = 183) (h1 : Nat.shiftRight N (8 * (pc + 1)) % 256 = a) (h2 : Nat.shiftRight N (8 * (pc + 2)) % 256 = b) : decode c pc = .ok (.invokespecial (a * 256 + b), 3) := dec_of (by
  show ((Reader.u1 : Decoder Nat) c pc).bind _ = _
  rw [rdb_u1 (rdb_of k (by omega) h0)]
  show ((Reader.u2 : Decoder Nat) c (pc + 1)).bind _ = _
  rw [rdb_u2 (rdb_of k (by omega) h1) (rdb_of k (by omega) h2)]
  rfl)
theorem op_184 {c : ByteArray} {N n pc a b : Nat} (k : c.data.toList = cbs N n) (hn : pc + 3 ≤ n) (h0 : Nat.shiftRight N (8 * pc) % 256 = 184) (h1 : Nat.shiftRight N (8 * (pc + 1)) % 256 = a) (h2 : Nat.shiftRight N (8 * (pc + 2)) % 256 = b) : decode c pc = .ok (.invokestatic (a * 256 + b), 3) := dec_of (by
  show ((Reader.u1 : Decoder Nat) c pc).bind _ = _
  rw [rdb_u1 (rdb_of k (by omega) h0)]
  show ((Reader.u2 : Decoder Nat) c (pc + 1)).bind _ = _
  rw [rdb_u2 (rdb_of k (by omega) h1) (rdb_of k (by omega) h2)]
  rfl)
theorem op_187 {c : ByteArray} {N n pc a b : Nat} (k : c.data.toList = cbs N n) (hn : pc + 3 ≤ n) (h0 : Nat.shiftRight N (8 * pc) % 256 = 187) (h1 : Nat.shiftRight N (8 * (pc + 1)) % 256 = a) (h2 : Nat.shiftRight N (8 * (pc + 2)) % 256 = b) : decode c pc = .ok (.new (a * 256 + b), 3) := dec_of (by
  show ((Reader.u1 : Decoder Nat) c pc).bind _ = _
  rw [rdb_u1 (rdb_of k (by omega) h0)]
  show ((Reader.u2 : Decoder Nat) c (pc + 1)).bind _ = _
  rw [rdb_u2 (rdb_of k (by omega) h1) (rdb_of k (by omega) h2)]
  rfl)
theorem op_189 {c : ByteArray} {N n pc a b : Nat} (k : c.data.toList = cbs N n) (hn : pc + 3 ≤ n) (h0 : Nat.shiftRight N (8 * pc) % 256 = 189) (h1 : Nat.shiftRight N (8 * (pc + 1)) % 256 = a) (h2 : Nat.shiftRight N (8 * (pc + 2)) % 256 = b) : decode c pc = .ok (.anewarray (a * 256 + b), 3) := dec_of (by
  show ((Reader.u1 : Decoder Nat) c pc).bind _ = _
  rw [rdb_u1 (rdb_of k (by omega) h0)]
  show ((Reader.u2 : Decoder Nat) c (pc + 1)).bind _ = _
  rw [rdb_u2 (rdb_of k (by omega) h1) (rdb_of k (by omega) h2)]
  rfl)
theorem op_190 {c : ByteArray} {N n pc : Nat} (k : c.data.toList = cbs N n) (hn : pc + 1 ≤ n) (h0 : Nat.shiftRight N (8 * pc) % 256 = 190) : decode c pc = .ok (.arraylength, 1) := dec_of (by
  show ((Reader.u1 : Decoder Nat) c pc).bind _ = _
  rw [rdb_u1 (rdb_of k (by omega) h0)]
  rfl)
theorem op_191 {c : ByteArray} {N n pc : Nat} (k : c.data.toList = cbs N n) (hn : pc + 1 ≤ n) (h0 : Nat.shiftRight N (8 * pc) % 256 = 191) : decode c pc = .ok (.athrow, 1) := dec_of (by
  show ((Reader.u1 : Decoder Nat) c pc).bind _ = _
  rw [rdb_u1 (rdb_of k (by omega) h0)]
  rfl)

theorem kcX0_init : (cX0_init).data.toList = cbs 0xb10900b52b2a0300b72a 10 := by decide +kernel
theorem dX0_init_0 : decode cX0_init 0 = .ok (.aload_n 0, 1) := op_42 kcX0_init (Nat.le_of_ble_eq_true rfl) rfl
theorem dX0_init_1 : decode cX0_init 1 = .ok (.invokespecial 3, 3) := op_183 (a := 0) (b := 3) kcX0_init (Nat.le_of_ble_eq_true rfl) rfl rfl rfl
theorem dX0_init_4 : decode cX0_init 4 = .ok (.aload_n 0, 1) := op_42 kcX0_init (Nat.le_of_ble_eq_true rfl) rfl
theorem dX0_init_5 : decode cX0_init 5 = .ok (.aload_n 1, 1) := op_43 kcX0_init (Nat.le_of_ble_eq_true rfl) rfl
theorem dX0_init_6 : decode cX0_init 6 = .ok (.putfield 9, 3) := op_181 (a := 0) (b := 9) kcX0_init (Nat.le_of_ble_eq_true rfl) rfl rfl rfl
theorem dX0_init_9 : decode cX0_init 9 = .ok (.return_, 1) := op_177 kcX0_init (Nat.le_of_ble_eq_true rfl) rfl
set_option maxRecDepth 20000 in
theorem gw_wsX0_canLead : (wsX0_canLead).all goodWord = true := by decide +kernel
set_option maxRecDepth 20000 in
theorem ggX0_leastLeader_X0_canLead : GoodIn wsX0_leastLeader wsX0_canLead := goodIn_r _ [8, 9, 10, 11, 7, 12, 1, 2, 3, 13, 14, 15, 16, 17, 18, 19, 20, 21, 22, 23, 24, 25, 26, 27, 28, 29, 30, 31, 32, 33, 34, 35, 36, 37, 38, 39, 40, 41, 42, 43, 44, 45, 46, 47, 48, 49, 50, 51] rfl gw_wsX0_canLead
set_option maxRecDepth 20000 in
theorem gX0_leastLeader_X0_canLead : GoodIn wsX0_leastLeader (wsV RX0 27 RX0 yX0_canLead wsX0_canLead) := goodIn_app (goodIn_of _ (by decide +kernel)) ggX0_leastLeader_X0_canLead
theorem kcX0_leastLeader : (cX0_leastLeader).data.toList = cbs 0xacfc10dfffa7010284ac1c0500991b00b61b1c2a0e009f1b1c1900a21500b40f00b40900b42a1c3d03 41 := by decide +kernel
theorem dX0_leastLeader_0 : decode cX0_leastLeader 0 = .ok (.iconst 0, 1) := op_3 kcX0_leastLeader (Nat.le_of_ble_eq_true rfl) rfl
theorem dX0_leastLeader_1 : decode cX0_leastLeader 1 = .ok (.istore_n 2, 1) := op_61 kcX0_leastLeader (Nat.le_of_ble_eq_true rfl) rfl
theorem dX0_leastLeader_2 : decode cX0_leastLeader 2 = .ok (.iload_n 2, 1) := op_28 kcX0_leastLeader (Nat.le_of_ble_eq_true rfl) rfl
theorem dX0_leastLeader_3 : decode cX0_leastLeader 3 = .ok (.aload_n 0, 1) := op_42 kcX0_leastLeader (Nat.le_of_ble_eq_true rfl) rfl
theorem dX0_leastLeader_4 : decode cX0_leastLeader 4 = .ok (.getfield 9, 3) := op_180 (a := 0) (b := 9) kcX0_leastLeader (Nat.le_of_ble_eq_true rfl) rfl rfl rfl
theorem dX0_leastLeader_7 : decode cX0_leastLeader 7 = .ok (.getfield 15, 3) := op_180 (a := 0) (b := 15) kcX0_leastLeader (Nat.le_of_ble_eq_true rfl) rfl rfl rfl
theorem dX0_leastLeader_10 : decode cX0_leastLeader 10 = .ok (.getfield 21, 3) := op_180 (a := 0) (b := 21) kcX0_leastLeader (Nat.le_of_ble_eq_true rfl) rfl rfl rfl
theorem dX0_leastLeader_13 : decode cX0_leastLeader 13 = .ok (.if_icmp .ge 25, 3) := op_162 (a := 0) (b := 25) kcX0_leastLeader (Nat.le_of_ble_eq_true rfl) rfl rfl rfl (by decide)
theorem dX0_leastLeader_16 : decode cX0_leastLeader 16 = .ok (.iload_n 2, 1) := op_28 kcX0_leastLeader (Nat.le_of_ble_eq_true rfl) rfl
theorem dX0_leastLeader_17 : decode cX0_leastLeader 17 = .ok (.iload_n 1, 1) := op_27 kcX0_leastLeader (Nat.le_of_ble_eq_true rfl) rfl
theorem dX0_leastLeader_18 : decode cX0_leastLeader 18 = .ok (.if_icmp .eq 14, 3) := op_159 (a := 0) (b := 14) kcX0_leastLeader (Nat.le_of_ble_eq_true rfl) rfl rfl rfl (by decide)
theorem dX0_leastLeader_21 : decode cX0_leastLeader 21 = .ok (.aload_n 0, 1) := op_42 kcX0_leastLeader (Nat.le_of_ble_eq_true rfl) rfl
theorem dX0_leastLeader_22 : decode cX0_leastLeader 22 = .ok (.iload_n 2, 1) := op_28 kcX0_leastLeader (Nat.le_of_ble_eq_true rfl) rfl
theorem dX0_leastLeader_23 : decode cX0_leastLeader 23 = .ok (.iload_n 1, 1) := op_27 kcX0_leastLeader (Nat.le_of_ble_eq_true rfl) rfl
theorem dX0_leastLeader_24 : decode cX0_leastLeader 24 = .ok (.invokevirtual 27, 3) := op_182 (a := 0) (b := 27) kcX0_leastLeader (Nat.le_of_ble_eq_true rfl) rfl rfl rfl
theorem dX0_leastLeader_27 : decode cX0_leastLeader 27 = .ok (.ifCond .eq 5, 3) := op_153 (a := 0) (b := 5) kcX0_leastLeader (Nat.le_of_ble_eq_true rfl) rfl rfl rfl (by decide)
theorem dX0_leastLeader_30 : decode cX0_leastLeader 30 = .ok (.iload_n 2, 1) := op_28 kcX0_leastLeader (Nat.le_of_ble_eq_true rfl) rfl
theorem dX0_leastLeader_31 : decode cX0_leastLeader 31 = .ok (.ireturn, 1) := op_172 kcX0_leastLeader (Nat.le_of_ble_eq_true rfl) rfl
theorem dX0_leastLeader_32 : decode cX0_leastLeader 32 = .ok (.iinc 2 1, 3) := by decide +kernel
theorem dX0_leastLeader_35 : decode cX0_leastLeader 35 = .ok (.goto (-33), 3) := op_167 (a := 255) (b := 223) kcX0_leastLeader (Nat.le_of_ble_eq_true rfl) rfl rfl rfl (by decide)
theorem dX0_leastLeader_38 : decode cX0_leastLeader 38 = .ok (.bipush (-4), 2) := op_16 (a := 252) kcX0_leastLeader (Nat.le_of_ble_eq_true rfl) rfl rfl (by decide)
theorem dX0_leastLeader_40 : decode cX0_leastLeader 40 = .ok (.ireturn, 1) := op_172 kcX0_leastLeader (Nat.le_of_ble_eq_true rfl) rfl
set_option maxRecDepth 20000 in
theorem gw_wsX0_whoRise : (wsX0_whoRise).all goodWord = true := by decide +kernel
set_option maxRecDepth 20000 in
theorem ggX0_canLead_X0_whoRise : GoodIn wsX0_canLead wsX0_whoRise := goodIn_r _ [5, 6, 7, 8, 9, 10, 11, 12, 13, 14, 15, 16, 17, 18, 19, 26, 27, 28, 29, 30, 31, 32, 33, 34, 35, 36, 37, 38] rfl gw_wsX0_whoRise
set_option maxRecDepth 20000 in
theorem gX0_canLead_X0_whoRise : GoodIn wsX0_canLead (wsV RX0 31 RX0 yX0_whoRise wsX0_whoRise) := goodIn_app (goodIn_of _ (by decide +kernel)) ggX0_canLead_X0_whoRise
set_option maxRecDepth 20000 in
theorem gw_wsX0_isEnough : (wsX0_isEnough).all goodWord = true := by decide +kernel
set_option maxRecDepth 20000 in
theorem ggX0_canLead_X0_isEnough : GoodIn wsX0_canLead wsX0_isEnough := goodIn_r _ [23, 6, 7, 8, 24, 25, 26, 27, 28, 29, 30, 31, 32, 33, 34, 35, 36, 37, 38, 39, 40, 41, 42, 43, 44, 45, 46, 47] rfl gw_wsX0_isEnough
set_option maxRecDepth 20000 in
theorem gX0_canLead_X0_isEnough : GoodIn wsX0_canLead (wsV RX0 35 RX0 yX0_isEnough wsX0_isEnough) := goodIn_app (goodIn_of _ (by decide +kernel)) ggX0_canLead_X0_isEnough
theorem kcX0_canLead : (cX0_canLead).data.toList = cbs 0xac030400a7040700992300b61d2a0f00997e047a1b1d3e1f00b61c1b2a 29 := by decide +kernel
theorem dX0_canLead_0 : decode cX0_canLead 0 = .ok (.aload_n 0, 1) := op_42 kcX0_canLead (Nat.le_of_ble_eq_true rfl) rfl
theorem dX0_canLead_1 : decode cX0_canLead 1 = .ok (.iload_n 1, 1) := op_27 kcX0_canLead (Nat.le_of_ble_eq_true rfl) rfl
theorem dX0_canLead_2 : decode cX0_canLead 2 = .ok (.iload_n 2, 1) := op_28 kcX0_canLead (Nat.le_of_ble_eq_true rfl) rfl
theorem dX0_canLead_3 : decode cX0_canLead 3 = .ok (.invokevirtual 31, 3) := op_182 (a := 0) (b := 31) kcX0_canLead (Nat.le_of_ble_eq_true rfl) rfl rfl rfl
theorem dX0_canLead_6 : decode cX0_canLead 6 = .ok (.istore_n 3, 1) := op_62 kcX0_canLead (Nat.le_of_ble_eq_true rfl) rfl
theorem dX0_canLead_7 : decode cX0_canLead 7 = .ok (.iload_n 3, 1) := op_29 kcX0_canLead (Nat.le_of_ble_eq_true rfl) rfl
theorem dX0_canLead_8 : decode cX0_canLead 8 = .ok (.iload_n 1, 1) := op_27 kcX0_canLead (Nat.le_of_ble_eq_true rfl) rfl
theorem dX0_canLead_9 : decode cX0_canLead 9 = .ok (.ishr, 1) := op_122 kcX0_canLead (Nat.le_of_ble_eq_true rfl) rfl
theorem dX0_canLead_10 : decode cX0_canLead 10 = .ok (.iconst 1, 1) := op_4 kcX0_canLead (Nat.le_of_ble_eq_true rfl) rfl
theorem dX0_canLead_11 : decode cX0_canLead 11 = .ok (.iand, 1) := op_126 kcX0_canLead (Nat.le_of_ble_eq_true rfl) rfl
theorem dX0_canLead_12 : decode cX0_canLead 12 = .ok (.ifCond .eq 15, 3) := op_153 (a := 0) (b := 15) kcX0_canLead (Nat.le_of_ble_eq_true rfl) rfl rfl rfl (by decide)
theorem dX0_canLead_15 : decode cX0_canLead 15 = .ok (.aload_n 0, 1) := op_42 kcX0_canLead (Nat.le_of_ble_eq_true rfl) rfl
theorem dX0_canLead_16 : decode cX0_canLead 16 = .ok (.iload_n 3, 1) := op_29 kcX0_canLead (Nat.le_of_ble_eq_true rfl) rfl
theorem dX0_canLead_17 : decode cX0_canLead 17 = .ok (.invokevirtual 35, 3) := op_182 (a := 0) (b := 35) kcX0_canLead (Nat.le_of_ble_eq_true rfl) rfl rfl rfl
theorem dX0_canLead_20 : decode cX0_canLead 20 = .ok (.ifCond .eq 7, 3) := op_153 (a := 0) (b := 7) kcX0_canLead (Nat.le_of_ble_eq_true rfl) rfl rfl rfl (by decide)
theorem dX0_canLead_23 : decode cX0_canLead 23 = .ok (.iconst 1, 1) := op_4 kcX0_canLead (Nat.le_of_ble_eq_true rfl) rfl
theorem dX0_canLead_24 : decode cX0_canLead 24 = .ok (.goto 4, 3) := op_167 (a := 0) (b := 4) kcX0_canLead (Nat.le_of_ble_eq_true rfl) rfl rfl rfl (by decide)
theorem dX0_canLead_27 : decode cX0_canLead 27 = .ok (.iconst 0, 1) := op_3 kcX0_canLead (Nat.le_of_ble_eq_true rfl) rfl
theorem dX0_canLead_28 : decode cX0_canLead 28 = .ok (.ireturn, 1) := op_172 kcX0_canLead (Nat.le_of_ble_eq_true rfl) rfl
set_option maxRecDepth 20000 in
theorem gw_wsX2_bowlOf : (wsX2_bowlOf).all goodWord = true := by decide +kernel
set_option maxRecDepth 20000 in
theorem ggX0_whoRise_X2_bowlOf : GoodIn wsX0_whoRise wsX2_bowlOf := goodIn_r _ [8, 9, 10, 11, 12, 7, 13, 14, 16, 17, 18, 19, 20] rfl gw_wsX2_bowlOf
set_option maxRecDepth 20000 in
theorem gX0_whoRise_X2_bowlOf : GoodIn wsX0_whoRise (wsV RX0 39 RX2 yX2_bowlOf wsX2_bowlOf) := goodIn_app (goodIn_of _ (by decide +kernel)) ggX0_whoRise_X2_bowlOf
theorem kcX0_whoRise : (cX0_whoRise).data.toList = cbs 0xac1dd0ffa70104843e80780415041d0a00a42700b604151c0900b42a2700b604151b0900b42a2700a21500b40f00b40900b42a04150436033e03 58 := by decide +kernel
theorem dX0_whoRise_0 : decode cX0_whoRise 0 = .ok (.iconst 0, 1) := op_3 kcX0_whoRise (Nat.le_of_ble_eq_true rfl) rfl
theorem dX0_whoRise_1 : decode cX0_whoRise 1 = .ok (.istore_n 3, 1) := op_62 kcX0_whoRise (Nat.le_of_ble_eq_true rfl) rfl
theorem dX0_whoRise_2 : decode cX0_whoRise 2 = .ok (.iconst 0, 1) := op_3 kcX0_whoRise (Nat.le_of_ble_eq_true rfl) rfl
theorem dX0_whoRise_3 : decode cX0_whoRise 3 = .ok (.istore 4, 2) := op_54 (a := 4) kcX0_whoRise (Nat.le_of_ble_eq_true rfl) rfl rfl
theorem dX0_whoRise_5 : decode cX0_whoRise 5 = .ok (.iload 4, 2) := op_21 (a := 4) kcX0_whoRise (Nat.le_of_ble_eq_true rfl) rfl rfl
theorem dX0_whoRise_7 : decode cX0_whoRise 7 = .ok (.aload_n 0, 1) := op_42 kcX0_whoRise (Nat.le_of_ble_eq_true rfl) rfl
theorem dX0_whoRise_8 : decode cX0_whoRise 8 = .ok (.getfield 9, 3) := op_180 (a := 0) (b := 9) kcX0_whoRise (Nat.le_of_ble_eq_true rfl) rfl rfl rfl
theorem dX0_whoRise_11 : decode cX0_whoRise 11 = .ok (.getfield 15, 3) := op_180 (a := 0) (b := 15) kcX0_whoRise (Nat.le_of_ble_eq_true rfl) rfl rfl rfl
theorem dX0_whoRise_14 : decode cX0_whoRise 14 = .ok (.getfield 21, 3) := op_180 (a := 0) (b := 21) kcX0_whoRise (Nat.le_of_ble_eq_true rfl) rfl rfl rfl
theorem dX0_whoRise_17 : decode cX0_whoRise 17 = .ok (.if_icmp .ge 39, 3) := op_162 (a := 0) (b := 39) kcX0_whoRise (Nat.le_of_ble_eq_true rfl) rfl rfl rfl (by decide)
theorem dX0_whoRise_20 : decode cX0_whoRise 20 = .ok (.aload_n 0, 1) := op_42 kcX0_whoRise (Nat.le_of_ble_eq_true rfl) rfl
theorem dX0_whoRise_21 : decode cX0_whoRise 21 = .ok (.getfield 9, 3) := op_180 (a := 0) (b := 9) kcX0_whoRise (Nat.le_of_ble_eq_true rfl) rfl rfl rfl
theorem dX0_whoRise_24 : decode cX0_whoRise 24 = .ok (.iload_n 1, 1) := op_27 kcX0_whoRise (Nat.le_of_ble_eq_true rfl) rfl
theorem dX0_whoRise_25 : decode cX0_whoRise 25 = .ok (.iload 4, 2) := op_21 (a := 4) kcX0_whoRise (Nat.le_of_ble_eq_true rfl) rfl rfl
theorem dX0_whoRise_27 : decode cX0_whoRise 27 = .ok (.invokevirtual 39, 3) := op_182 (a := 0) (b := 39) kcX0_whoRise (Nat.le_of_ble_eq_true rfl) rfl rfl rfl
theorem dX0_whoRise_30 : decode cX0_whoRise 30 = .ok (.aload_n 0, 1) := op_42 kcX0_whoRise (Nat.le_of_ble_eq_true rfl) rfl
theorem dX0_whoRise_31 : decode cX0_whoRise 31 = .ok (.getfield 9, 3) := op_180 (a := 0) (b := 9) kcX0_whoRise (Nat.le_of_ble_eq_true rfl) rfl rfl rfl
theorem dX0_whoRise_34 : decode cX0_whoRise 34 = .ok (.iload_n 2, 1) := op_28 kcX0_whoRise (Nat.le_of_ble_eq_true rfl) rfl
theorem dX0_whoRise_35 : decode cX0_whoRise 35 = .ok (.iload 4, 2) := op_21 (a := 4) kcX0_whoRise (Nat.le_of_ble_eq_true rfl) rfl rfl
theorem dX0_whoRise_37 : decode cX0_whoRise 37 = .ok (.invokevirtual 39, 3) := op_182 (a := 0) (b := 39) kcX0_whoRise (Nat.le_of_ble_eq_true rfl) rfl rfl rfl
theorem dX0_whoRise_40 : decode cX0_whoRise 40 = .ok (.if_icmp .le 10, 3) := op_164 (a := 0) (b := 10) kcX0_whoRise (Nat.le_of_ble_eq_true rfl) rfl rfl rfl (by decide)
theorem dX0_whoRise_43 : decode cX0_whoRise 43 = .ok (.iload_n 3, 1) := op_29 kcX0_whoRise (Nat.le_of_ble_eq_true rfl) rfl
theorem dX0_whoRise_44 : decode cX0_whoRise 44 = .ok (.iconst 1, 1) := op_4 kcX0_whoRise (Nat.le_of_ble_eq_true rfl) rfl
theorem dX0_whoRise_45 : decode cX0_whoRise 45 = .ok (.iload 4, 2) := op_21 (a := 4) kcX0_whoRise (Nat.le_of_ble_eq_true rfl) rfl rfl
theorem dX0_whoRise_47 : decode cX0_whoRise 47 = .ok (.ishl, 1) := op_120 kcX0_whoRise (Nat.le_of_ble_eq_true rfl) rfl
theorem dX0_whoRise_48 : decode cX0_whoRise 48 = .ok (.ior, 1) := op_128 kcX0_whoRise (Nat.le_of_ble_eq_true rfl) rfl
theorem dX0_whoRise_49 : decode cX0_whoRise 49 = .ok (.istore_n 3, 1) := op_62 kcX0_whoRise (Nat.le_of_ble_eq_true rfl) rfl
theorem dX0_whoRise_50 : decode cX0_whoRise 50 = .ok (.iinc 4 1, 3) := by decide +kernel
theorem dX0_whoRise_53 : decode cX0_whoRise 53 = .ok (.goto (-48), 3) := op_167 (a := 255) (b := 208) kcX0_whoRise (Nat.le_of_ble_eq_true rfl) rfl rfl rfl (by decide)
theorem dX0_whoRise_56 : decode cX0_whoRise 56 = .ok (.iload_n 3, 1) := op_29 kcX0_whoRise (Nat.le_of_ble_eq_true rfl) rfl
theorem dX0_whoRise_57 : decode cX0_whoRise 57 = .ok (.ireturn, 1) := op_172 kcX0_whoRise (Nat.le_of_ble_eq_true rfl) rfl
theorem kcX0_isEnough : (cX0_isEnough).data.toList = cbs 0xac030400a7040700a41d68051cc5ffa70104843d602e04152e00b42a00b40900b42a1c1300997e047a04151b3e602e04152e00b42a00b40900b42a1d3200a21500b40f00b40900b42a04150436033e033d03 82 := by decide +kernel
theorem dX0_isEnough_0 : decode cX0_isEnough 0 = .ok (.iconst 0, 1) := op_3 kcX0_isEnough (Nat.le_of_ble_eq_true rfl) rfl
theorem dX0_isEnough_1 : decode cX0_isEnough 1 = .ok (.istore_n 2, 1) := op_61 kcX0_isEnough (Nat.le_of_ble_eq_true rfl) rfl
theorem dX0_isEnough_2 : decode cX0_isEnough 2 = .ok (.iconst 0, 1) := op_3 kcX0_isEnough (Nat.le_of_ble_eq_true rfl) rfl
theorem dX0_isEnough_3 : decode cX0_isEnough 3 = .ok (.istore_n 3, 1) := op_62 kcX0_isEnough (Nat.le_of_ble_eq_true rfl) rfl
theorem dX0_isEnough_4 : decode cX0_isEnough 4 = .ok (.iconst 0, 1) := op_3 kcX0_isEnough (Nat.le_of_ble_eq_true rfl) rfl
theorem dX0_isEnough_5 : decode cX0_isEnough 5 = .ok (.istore 4, 2) := op_54 (a := 4) kcX0_isEnough (Nat.le_of_ble_eq_true rfl) rfl rfl
theorem dX0_isEnough_7 : decode cX0_isEnough 7 = .ok (.iload 4, 2) := op_21 (a := 4) kcX0_isEnough (Nat.le_of_ble_eq_true rfl) rfl rfl
theorem dX0_isEnough_9 : decode cX0_isEnough 9 = .ok (.aload_n 0, 1) := op_42 kcX0_isEnough (Nat.le_of_ble_eq_true rfl) rfl
theorem dX0_isEnough_10 : decode cX0_isEnough 10 = .ok (.getfield 9, 3) := op_180 (a := 0) (b := 9) kcX0_isEnough (Nat.le_of_ble_eq_true rfl) rfl rfl rfl
theorem dX0_isEnough_13 : decode cX0_isEnough 13 = .ok (.getfield 15, 3) := op_180 (a := 0) (b := 15) kcX0_isEnough (Nat.le_of_ble_eq_true rfl) rfl rfl rfl
theorem dX0_isEnough_16 : decode cX0_isEnough 16 = .ok (.getfield 21, 3) := op_180 (a := 0) (b := 21) kcX0_isEnough (Nat.le_of_ble_eq_true rfl) rfl rfl rfl
theorem dX0_isEnough_19 : decode cX0_isEnough 19 = .ok (.if_icmp .ge 50, 3) := op_162 (a := 0) (b := 50) kcX0_isEnough (Nat.le_of_ble_eq_true rfl) rfl rfl rfl (by decide)
theorem dX0_isEnough_22 : decode cX0_isEnough 22 = .ok (.iload_n 3, 1) := op_29 kcX0_isEnough (Nat.le_of_ble_eq_true rfl) rfl
theorem dX0_isEnough_23 : decode cX0_isEnough 23 = .ok (.aload_n 0, 1) := op_42 kcX0_isEnough (Nat.le_of_ble_eq_true rfl) rfl
theorem dX0_isEnough_24 : decode cX0_isEnough 24 = .ok (.getfield 9, 3) := op_180 (a := 0) (b := 9) kcX0_isEnough (Nat.le_of_ble_eq_true rfl) rfl rfl rfl
theorem dX0_isEnough_27 : decode cX0_isEnough 27 = .ok (.getfield 42, 3) := op_180 (a := 0) (b := 42) kcX0_isEnough (Nat.le_of_ble_eq_true rfl) rfl rfl rfl
theorem dX0_isEnough_30 : decode cX0_isEnough 30 = .ok (.getfield 46, 3) := op_180 (a := 0) (b := 46) kcX0_isEnough (Nat.le_of_ble_eq_true rfl) rfl rfl rfl
theorem dX0_isEnough_33 : decode cX0_isEnough 33 = .ok (.iload 4, 2) := op_21 (a := 4) kcX0_isEnough (Nat.le_of_ble_eq_true rfl) rfl rfl
theorem dX0_isEnough_35 : decode cX0_isEnough 35 = .ok (.iaload, 1) := op_46 kcX0_isEnough (Nat.le_of_ble_eq_true rfl) rfl
theorem dX0_isEnough_36 : decode cX0_isEnough 36 = .ok (.iadd, 1) := op_96 kcX0_isEnough (Nat.le_of_ble_eq_true rfl) rfl
theorem dX0_isEnough_37 : decode cX0_isEnough 37 = .ok (.istore_n 3, 1) := op_62 kcX0_isEnough (Nat.le_of_ble_eq_true rfl) rfl
theorem dX0_isEnough_38 : decode cX0_isEnough 38 = .ok (.iload_n 1, 1) := op_27 kcX0_isEnough (Nat.le_of_ble_eq_true rfl) rfl
theorem dX0_isEnough_39 : decode cX0_isEnough 39 = .ok (.iload 4, 2) := op_21 (a := 4) kcX0_isEnough (Nat.le_of_ble_eq_true rfl) rfl rfl
theorem dX0_isEnough_41 : decode cX0_isEnough 41 = .ok (.ishr, 1) := op_122 kcX0_isEnough (Nat.le_of_ble_eq_true rfl) rfl
theorem dX0_isEnough_42 : decode cX0_isEnough 42 = .ok (.iconst 1, 1) := op_4 kcX0_isEnough (Nat.le_of_ble_eq_true rfl) rfl
theorem dX0_isEnough_43 : decode cX0_isEnough 43 = .ok (.iand, 1) := op_126 kcX0_isEnough (Nat.le_of_ble_eq_true rfl) rfl
theorem dX0_isEnough_44 : decode cX0_isEnough 44 = .ok (.ifCond .eq 19, 3) := op_153 (a := 0) (b := 19) kcX0_isEnough (Nat.le_of_ble_eq_true rfl) rfl rfl rfl (by decide)
theorem dX0_isEnough_47 : decode cX0_isEnough 47 = .ok (.iload_n 2, 1) := op_28 kcX0_isEnough (Nat.le_of_ble_eq_true rfl) rfl
theorem dX0_isEnough_48 : decode cX0_isEnough 48 = .ok (.aload_n 0, 1) := op_42 kcX0_isEnough (Nat.le_of_ble_eq_true rfl) rfl
theorem dX0_isEnough_49 : decode cX0_isEnough 49 = .ok (.getfield 9, 3) := op_180 (a := 0) (b := 9) kcX0_isEnough (Nat.le_of_ble_eq_true rfl) rfl rfl rfl
theorem dX0_isEnough_52 : decode cX0_isEnough 52 = .ok (.getfield 42, 3) := op_180 (a := 0) (b := 42) kcX0_isEnough (Nat.le_of_ble_eq_true rfl) rfl rfl rfl
theorem dX0_isEnough_55 : decode cX0_isEnough 55 = .ok (.getfield 46, 3) := op_180 (a := 0) (b := 46) kcX0_isEnough (Nat.le_of_ble_eq_true rfl) rfl rfl rfl
theorem dX0_isEnough_58 : decode cX0_isEnough 58 = .ok (.iload 4, 2) := op_21 (a := 4) kcX0_isEnough (Nat.le_of_ble_eq_true rfl) rfl rfl
theorem dX0_isEnough_60 : decode cX0_isEnough 60 = .ok (.iaload, 1) := op_46 kcX0_isEnough (Nat.le_of_ble_eq_true rfl) rfl
theorem dX0_isEnough_61 : decode cX0_isEnough 61 = .ok (.iadd, 1) := op_96 kcX0_isEnough (Nat.le_of_ble_eq_true rfl) rfl
theorem dX0_isEnough_62 : decode cX0_isEnough 62 = .ok (.istore_n 2, 1) := op_61 kcX0_isEnough (Nat.le_of_ble_eq_true rfl) rfl
theorem dX0_isEnough_63 : decode cX0_isEnough 63 = .ok (.iinc 4 1, 3) := by decide +kernel
theorem dX0_isEnough_66 : decode cX0_isEnough 66 = .ok (.goto (-59), 3) := op_167 (a := 255) (b := 197) kcX0_isEnough (Nat.le_of_ble_eq_true rfl) rfl rfl rfl (by decide)
theorem dX0_isEnough_69 : decode cX0_isEnough 69 = .ok (.iload_n 2, 1) := op_28 kcX0_isEnough (Nat.le_of_ble_eq_true rfl) rfl
theorem dX0_isEnough_70 : decode cX0_isEnough 70 = .ok (.iconst 2, 1) := op_5 kcX0_isEnough (Nat.le_of_ble_eq_true rfl) rfl
theorem dX0_isEnough_71 : decode cX0_isEnough 71 = .ok (.imul, 1) := op_104 kcX0_isEnough (Nat.le_of_ble_eq_true rfl) rfl
theorem dX0_isEnough_72 : decode cX0_isEnough 72 = .ok (.iload_n 3, 1) := op_29 kcX0_isEnough (Nat.le_of_ble_eq_true rfl) rfl
theorem dX0_isEnough_73 : decode cX0_isEnough 73 = .ok (.if_icmp .le 7, 3) := op_164 (a := 0) (b := 7) kcX0_isEnough (Nat.le_of_ble_eq_true rfl) rfl rfl rfl (by decide)
theorem dX0_isEnough_76 : decode cX0_isEnough 76 = .ok (.iconst 1, 1) := op_4 kcX0_isEnough (Nat.le_of_ble_eq_true rfl) rfl
theorem dX0_isEnough_77 : decode cX0_isEnough 77 = .ok (.goto 4, 3) := op_167 (a := 0) (b := 4) kcX0_isEnough (Nat.le_of_ble_eq_true rfl) rfl rfl rfl (by decide)
theorem dX0_isEnough_80 : decode cX0_isEnough 80 = .ok (.iconst 0, 1) := op_3 kcX0_isEnough (Nat.le_of_ble_eq_true rfl) rfl
theorem dX0_isEnough_81 : decode cX0_isEnough 81 = .ok (.ireturn, 1) := op_172 kcX0_isEnough (Nat.le_of_ble_eq_true rfl) rfl
set_option maxRecDepth 20000 in
theorem ggX0_leastBand_X0_whoRise : GoodIn wsX0_leastBand wsX0_whoRise := goodIn_r _ [8, 1, 2, 3, 9, 10, 11, 12, 13, 14, 15, 16, 17, 18, 19, 26, 27, 28, 29, 30, 31, 32, 33, 34, 35, 36, 37, 38] rfl gw_wsX0_whoRise
set_option maxRecDepth 20000 in
theorem gX0_leastBand_X0_whoRise : GoodIn wsX0_leastBand (wsV RX0 31 RX0 yX0_whoRise wsX0_whoRise) := goodIn_app (goodIn_of _ (by decide +kernel)) ggX0_leastBand_X0_whoRise
set_option maxRecDepth 20000 in
theorem ggX0_leastBand_X0_isEnough : GoodIn wsX0_leastBand wsX0_isEnough := goodIn_r _ [23, 1, 2, 3, 24, 25, 26, 27, 28, 29, 30, 31, 32, 33, 34, 35, 36, 37, 38, 39, 40, 41, 42, 43, 44, 45, 46, 47] rfl gw_wsX0_isEnough
set_option maxRecDepth 20000 in
theorem gX0_leastBand_X0_isEnough : GoodIn wsX0_leastBand (wsV RX0 35 RX0 yX0_isEnough wsX0_isEnough) := goodIn_app (goodIn_of _ (by decide +kernel)) ggX0_leastBand_X0_isEnough
theorem kcX0_leastBand : (cX0_leastBand).data.toList = cbs 0xac1ddcffa7ff04843e05150600992300b605152a0f009f1c041505367e8202780415041d25009b0415043664041500b40f00b40900b42a3e1f00b61b1c2a 62 := by decide +kernel
theorem dX0_leastBand_0 : decode cX0_leastBand 0 = .ok (.aload_n 0, 1) := op_42 kcX0_leastBand (Nat.le_of_ble_eq_true rfl) rfl
theorem dX0_leastBand_1 : decode cX0_leastBand 1 = .ok (.iload_n 2, 1) := op_28 kcX0_leastBand (Nat.le_of_ble_eq_true rfl) rfl
theorem dX0_leastBand_2 : decode cX0_leastBand 2 = .ok (.iload_n 1, 1) := op_27 kcX0_leastBand (Nat.le_of_ble_eq_true rfl) rfl
theorem dX0_leastBand_3 : decode cX0_leastBand 3 = .ok (.invokevirtual 31, 3) := op_182 (a := 0) (b := 31) kcX0_leastBand (Nat.le_of_ble_eq_true rfl) rfl rfl rfl
theorem dX0_leastBand_6 : decode cX0_leastBand 6 = .ok (.istore_n 3, 1) := op_62 kcX0_leastBand (Nat.le_of_ble_eq_true rfl) rfl
theorem dX0_leastBand_7 : decode cX0_leastBand 7 = .ok (.aload_n 0, 1) := op_42 kcX0_leastBand (Nat.le_of_ble_eq_true rfl) rfl
theorem dX0_leastBand_8 : decode cX0_leastBand 8 = .ok (.getfield 9, 3) := op_180 (a := 0) (b := 9) kcX0_leastBand (Nat.le_of_ble_eq_true rfl) rfl rfl rfl
theorem dX0_leastBand_11 : decode cX0_leastBand 11 = .ok (.getfield 15, 3) := op_180 (a := 0) (b := 15) kcX0_leastBand (Nat.le_of_ble_eq_true rfl) rfl rfl rfl
theorem dX0_leastBand_14 : decode cX0_leastBand 14 = .ok (.getfield 21, 3) := op_180 (a := 0) (b := 21) kcX0_leastBand (Nat.le_of_ble_eq_true rfl) rfl rfl rfl
theorem dX0_leastBand_17 : decode cX0_leastBand 17 = .ok (.iconst 1, 1) := op_4 kcX0_leastBand (Nat.le_of_ble_eq_true rfl) rfl
theorem dX0_leastBand_18 : decode cX0_leastBand 18 = .ok (.isub, 1) := op_100 kcX0_leastBand (Nat.le_of_ble_eq_true rfl) rfl
theorem dX0_leastBand_19 : decode cX0_leastBand 19 = .ok (.istore 4, 2) := op_54 (a := 4) kcX0_leastBand (Nat.le_of_ble_eq_true rfl) rfl rfl
theorem dX0_leastBand_21 : decode cX0_leastBand 21 = .ok (.iload 4, 2) := op_21 (a := 4) kcX0_leastBand (Nat.le_of_ble_eq_true rfl) rfl rfl
theorem dX0_leastBand_23 : decode cX0_leastBand 23 = .ok (.ifCond .lt 37, 3) := op_155 (a := 0) (b := 37) kcX0_leastBand (Nat.le_of_ble_eq_true rfl) rfl rfl rfl (by decide)
theorem dX0_leastBand_26 : decode cX0_leastBand 26 = .ok (.iload_n 3, 1) := op_29 kcX0_leastBand (Nat.le_of_ble_eq_true rfl) rfl
theorem dX0_leastBand_27 : decode cX0_leastBand 27 = .ok (.iconst 1, 1) := op_4 kcX0_leastBand (Nat.le_of_ble_eq_true rfl) rfl
theorem dX0_leastBand_28 : decode cX0_leastBand 28 = .ok (.iload 4, 2) := op_21 (a := 4) kcX0_leastBand (Nat.le_of_ble_eq_true rfl) rfl rfl
theorem dX0_leastBand_30 : decode cX0_leastBand 30 = .ok (.ishl, 1) := op_120 kcX0_leastBand (Nat.le_of_ble_eq_true rfl) rfl
theorem dX0_leastBand_31 : decode cX0_leastBand 31 = .ok (.iconst (-1), 1) := op_2 kcX0_leastBand (Nat.le_of_ble_eq_true rfl) rfl
theorem dX0_leastBand_32 : decode cX0_leastBand 32 = .ok (.ixor, 1) := op_130 kcX0_leastBand (Nat.le_of_ble_eq_true rfl) rfl
theorem dX0_leastBand_33 : decode cX0_leastBand 33 = .ok (.iand, 1) := op_126 kcX0_leastBand (Nat.le_of_ble_eq_true rfl) rfl
theorem dX0_leastBand_34 : decode cX0_leastBand 34 = .ok (.istore 5, 2) := op_54 (a := 5) kcX0_leastBand (Nat.le_of_ble_eq_true rfl) rfl rfl
theorem dX0_leastBand_36 : decode cX0_leastBand 36 = .ok (.iload 4, 2) := op_21 (a := 4) kcX0_leastBand (Nat.le_of_ble_eq_true rfl) rfl rfl
theorem dX0_leastBand_38 : decode cX0_leastBand 38 = .ok (.iload_n 2, 1) := op_28 kcX0_leastBand (Nat.le_of_ble_eq_true rfl) rfl
theorem dX0_leastBand_39 : decode cX0_leastBand 39 = .ok (.if_icmp .eq 15, 3) := op_159 (a := 0) (b := 15) kcX0_leastBand (Nat.le_of_ble_eq_true rfl) rfl rfl rfl (by decide)
theorem dX0_leastBand_42 : decode cX0_leastBand 42 = .ok (.aload_n 0, 1) := op_42 kcX0_leastBand (Nat.le_of_ble_eq_true rfl) rfl
theorem dX0_leastBand_43 : decode cX0_leastBand 43 = .ok (.iload 5, 2) := op_21 (a := 5) kcX0_leastBand (Nat.le_of_ble_eq_true rfl) rfl rfl
theorem dX0_leastBand_45 : decode cX0_leastBand 45 = .ok (.invokevirtual 35, 3) := op_182 (a := 0) (b := 35) kcX0_leastBand (Nat.le_of_ble_eq_true rfl) rfl rfl rfl
theorem dX0_leastBand_48 : decode cX0_leastBand 48 = .ok (.ifCond .eq 6, 3) := op_153 (a := 0) (b := 6) kcX0_leastBand (Nat.le_of_ble_eq_true rfl) rfl rfl rfl (by decide)
theorem dX0_leastBand_51 : decode cX0_leastBand 51 = .ok (.iload 5, 2) := op_21 (a := 5) kcX0_leastBand (Nat.le_of_ble_eq_true rfl) rfl rfl
theorem dX0_leastBand_53 : decode cX0_leastBand 53 = .ok (.istore_n 3, 1) := op_62 kcX0_leastBand (Nat.le_of_ble_eq_true rfl) rfl
theorem dX0_leastBand_54 : decode cX0_leastBand 54 = .ok (.iinc 4 (-1), 3) := by decide +kernel
theorem dX0_leastBand_57 : decode cX0_leastBand 57 = .ok (.goto (-36), 3) := op_167 (a := 255) (b := 220) kcX0_leastBand (Nat.le_of_ble_eq_true rfl) rfl rfl rfl (by decide)
theorem dX0_leastBand_60 : decode cX0_leastBand 60 = .ok (.iload_n 3, 1) := op_29 kcX0_leastBand (Nat.le_of_ble_eq_true rfl) rfl
theorem dX0_leastBand_61 : decode cX0_leastBand 61 = .ok (.ireturn, 1) := op_172 kcX0_leastBand (Nat.le_of_ble_eq_true rfl) rfl
theorem kcX1_init : (cX1_init).data.toList = cbs 0xb12500b52b2a2200b5032a1e00b5032a1b00b50abc072a1800b50abc072a1500b50abc082a1200b50abc082a0f00b50abc23102a0b00b50abc23102a0300b72a 64 := by decide +kernel
theorem dX1_init_0 : decode cX1_init 0 = .ok (.aload_n 0, 1) := op_42 kcX1_init (Nat.le_of_ble_eq_true rfl) rfl
theorem dX1_init_1 : decode cX1_init 1 = .ok (.invokespecial 3, 3) := op_183 (a := 0) (b := 3) kcX1_init (Nat.le_of_ble_eq_true rfl) rfl rfl rfl
theorem dX1_init_4 : decode cX1_init 4 = .ok (.aload_n 0, 1) := op_42 kcX1_init (Nat.le_of_ble_eq_true rfl) rfl
theorem dX1_init_5 : decode cX1_init 5 = .ok (.bipush 35, 2) := op_16 (a := 35) kcX1_init (Nat.le_of_ble_eq_true rfl) rfl rfl (by decide)
theorem dX1_init_7 : decode cX1_init 7 = .ok (.newarray .int, 2) := by decide +kernel
theorem dX1_init_9 : decode cX1_init 9 = .ok (.putfield 11, 3) := op_181 (a := 0) (b := 11) kcX1_init (Nat.le_of_ble_eq_true rfl) rfl rfl rfl
theorem dX1_init_12 : decode cX1_init 12 = .ok (.aload_n 0, 1) := op_42 kcX1_init (Nat.le_of_ble_eq_true rfl) rfl
theorem dX1_init_13 : decode cX1_init 13 = .ok (.bipush 35, 2) := op_16 (a := 35) kcX1_init (Nat.le_of_ble_eq_true rfl) rfl rfl (by decide)
theorem dX1_init_15 : decode cX1_init 15 = .ok (.newarray .int, 2) := by decide +kernel
theorem dX1_init_17 : decode cX1_init 17 = .ok (.putfield 15, 3) := op_181 (a := 0) (b := 15) kcX1_init (Nat.le_of_ble_eq_true rfl) rfl rfl rfl
theorem dX1_init_20 : decode cX1_init 20 = .ok (.aload_n 0, 1) := op_42 kcX1_init (Nat.le_of_ble_eq_true rfl) rfl
theorem dX1_init_21 : decode cX1_init 21 = .ok (.iconst 5, 1) := op_8 kcX1_init (Nat.le_of_ble_eq_true rfl) rfl
theorem dX1_init_22 : decode cX1_init 22 = .ok (.newarray .int, 2) := by decide +kernel
theorem dX1_init_24 : decode cX1_init 24 = .ok (.putfield 18, 3) := op_181 (a := 0) (b := 18) kcX1_init (Nat.le_of_ble_eq_true rfl) rfl rfl rfl
theorem dX1_init_27 : decode cX1_init 27 = .ok (.aload_n 0, 1) := op_42 kcX1_init (Nat.le_of_ble_eq_true rfl) rfl
theorem dX1_init_28 : decode cX1_init 28 = .ok (.iconst 5, 1) := op_8 kcX1_init (Nat.le_of_ble_eq_true rfl) rfl
theorem dX1_init_29 : decode cX1_init 29 = .ok (.newarray .int, 2) := by decide +kernel
theorem dX1_init_31 : decode cX1_init 31 = .ok (.putfield 21, 3) := op_181 (a := 0) (b := 21) kcX1_init (Nat.le_of_ble_eq_true rfl) rfl rfl rfl
theorem dX1_init_34 : decode cX1_init 34 = .ok (.aload_n 0, 1) := op_42 kcX1_init (Nat.le_of_ble_eq_true rfl) rfl
theorem dX1_init_35 : decode cX1_init 35 = .ok (.iconst 4, 1) := op_7 kcX1_init (Nat.le_of_ble_eq_true rfl) rfl
theorem dX1_init_36 : decode cX1_init 36 = .ok (.newarray .int, 2) := by decide +kernel
theorem dX1_init_38 : decode cX1_init 38 = .ok (.putfield 24, 3) := op_181 (a := 0) (b := 24) kcX1_init (Nat.le_of_ble_eq_true rfl) rfl rfl rfl
theorem dX1_init_41 : decode cX1_init 41 = .ok (.aload_n 0, 1) := op_42 kcX1_init (Nat.le_of_ble_eq_true rfl) rfl
theorem dX1_init_42 : decode cX1_init 42 = .ok (.iconst 4, 1) := op_7 kcX1_init (Nat.le_of_ble_eq_true rfl) rfl
theorem dX1_init_43 : decode cX1_init 43 = .ok (.newarray .int, 2) := by decide +kernel
theorem dX1_init_45 : decode cX1_init 45 = .ok (.putfield 27, 3) := op_181 (a := 0) (b := 27) kcX1_init (Nat.le_of_ble_eq_true rfl) rfl rfl rfl
theorem dX1_init_48 : decode cX1_init 48 = .ok (.aload_n 0, 1) := op_42 kcX1_init (Nat.le_of_ble_eq_true rfl) rfl
theorem dX1_init_49 : decode cX1_init 49 = .ok (.iconst 0, 1) := op_3 kcX1_init (Nat.le_of_ble_eq_true rfl) rfl
theorem dX1_init_50 : decode cX1_init 50 = .ok (.putfield 30, 3) := op_181 (a := 0) (b := 30) kcX1_init (Nat.le_of_ble_eq_true rfl) rfl rfl rfl
theorem dX1_init_53 : decode cX1_init 53 = .ok (.aload_n 0, 1) := op_42 kcX1_init (Nat.le_of_ble_eq_true rfl) rfl
theorem dX1_init_54 : decode cX1_init 54 = .ok (.iconst 0, 1) := op_3 kcX1_init (Nat.le_of_ble_eq_true rfl) rfl
theorem dX1_init_55 : decode cX1_init 55 = .ok (.putfield 34, 3) := op_181 (a := 0) (b := 34) kcX1_init (Nat.le_of_ble_eq_true rfl) rfl rfl rfl
theorem dX1_init_58 : decode cX1_init 58 = .ok (.aload_n 0, 1) := op_42 kcX1_init (Nat.le_of_ble_eq_true rfl) rfl
theorem dX1_init_59 : decode cX1_init 59 = .ok (.aload_n 1, 1) := op_43 kcX1_init (Nat.le_of_ble_eq_true rfl) rfl
theorem dX1_init_60 : decode cX1_init 60 = .ok (.putfield 37, 3) := op_181 (a := 0) (b := 37) kcX1_init (Nat.le_of_ble_eq_true rfl) rfl rfl rfl
theorem dX1_init_63 : decode cX1_init 63 = .ok (.return_, 1) := op_177 kcX1_init (Nat.le_of_ble_eq_true rfl) rfl
set_option maxRecDepth 20000 in
theorem gw_wsX1_begin : (wsX1_begin).all goodWord = true := by decide +kernel
set_option maxRecDepth 20000 in
theorem ggX1_leastSpread_X1_begin : GoodIn wsX1_leastSpread wsX1_begin := goodIn_r _ [11, 12, 5, 6, 13, 14, 15, 16, 17, 18, 19, 20, 21, 22, 23, 24, 25, 26, 27, 28, 29, 30, 31, 32, 33, 34, 35, 36, 37, 38, 39, 40, 41, 42, 43, 44, 45, 46, 47, 48, 49, 50, 51, 52, 53, 54, 55, 56, 57, 88, 89, 90, 91, 92, 93, 94, 95, 96, 97, 98, 99, 100, 101, 102, 103, 104, 105, 106, 107, 108, 109, 110, 111, 112, 113, 114, 115, 116, 117] rfl gw_wsX1_begin
set_option maxRecDepth 20000 in
theorem gX1_leastSpread_X1_begin : GoodIn wsX1_leastSpread (wsV RX1 47 RX1 yX1_begin wsX1_begin) := goodIn_app (goodIn_of _ (by decide +kernel)) ggX1_leastSpread_X1_begin
set_option maxRecDepth 20000 in
theorem gw_wsX1_goOn : (wsX1_goOn).all goodWord = true := by decide +kernel
set_option maxRecDepth 20000 in
theorem ggX1_leastSpread_X1_goOn : GoodIn wsX1_leastSpread wsX1_goOn := goodIn_r _ [61, 23, 24, 12, 16, 17, 15, 22, 26, 62, 63, 64, 45, 65, 66, 67, 68, 69, 31, 70, 40, 71, 72, 73, 74, 41, 88, 89, 90, 91, 92, 93, 94, 95, 96, 97, 98, 99, 100, 101, 111, 112, 113, 114, 115, 116, 117] rfl gw_wsX1_goOn
set_option maxRecDepth 20000 in
theorem gX1_leastSpread_X1_goOn : GoodIn wsX1_leastSpread (wsV RX1 51 RX1 yX1_goOn wsX1_goOn) := goodIn_app (goodIn_of _ (by decide +kernel)) ggX1_leastSpread_X1_goOn
set_option maxRecDepth 20000 in
theorem gw_wsX1_weigh : (wsX1_weigh).all goodWord = true := by decide +kernel
set_option maxRecDepth 20000 in
theorem ggX1_leastSpread_X1_weigh : GoodIn wsX1_leastSpread wsX1_weigh := goodIn_r _ [78, 22, 5, 12, 16, 17, 79, 80, 3, 81, 1, 2, 4, 6, 23, 82, 18, 19, 20, 21, 88, 89, 90, 91, 92, 93, 94, 95, 96, 97, 98, 99, 100, 101, 111, 112, 113, 114, 115, 116, 117] rfl gw_wsX1_weigh
set_option maxRecDepth 20000 in
theorem gX1_leastSpread_X1_weigh : GoodIn wsX1_leastSpread (wsV RX1 54 RX1 yX1_weigh wsX1_weigh) := goodIn_app (goodIn_of _ (by decide +kernel)) ggX1_leastSpread_X1_weigh
set_option maxRecDepth 20000 in
theorem gw_wsX1_nextRow : (wsX1_nextRow).all goodWord = true := by decide +kernel
set_option maxRecDepth 20000 in
theorem ggX1_leastSpread_X1_nextRow : GoodIn wsX1_leastSpread wsX1_nextRow := goodIn_r _ [86, 5, 23, 12, 16, 87, 88, 89, 90, 91, 92, 93, 94, 95, 96, 97, 98, 99, 100, 101, 111, 112, 113, 114, 115, 116, 117] rfl gw_wsX1_nextRow
set_option maxRecDepth 20000 in
theorem gX1_leastSpread_X1_nextRow : GoodIn wsX1_leastSpread (wsV RX1 57 RX1 yX1_nextRow wsX1_nextRow) := goodIn_app (goodIn_of _ (by decide +kernel)) ggX1_leastSpread_X1_nextRow
theorem kcX1_leastSpread : (cX1_leastSpread).data.toList = cbs 0xac2200b42acfffa70103843d3900b62a3600b62aeeffa70104843300b604152a0f00a21e00b42a041504361c2a009ffc101c3000a27102111d3e033d032f00b62900b8071b2a 70 := by decide +kernel
theorem dX1_leastSpread_0 : decode cX1_leastSpread 0 = .ok (.aload_n 0, 1) := op_42 kcX1_leastSpread (Nat.le_of_ble_eq_true rfl) rfl
theorem dX1_leastSpread_1 : decode cX1_leastSpread 1 = .ok (.iload_n 1, 1) := op_27 kcX1_leastSpread (Nat.le_of_ble_eq_true rfl) rfl
theorem dX1_leastSpread_2 : decode cX1_leastSpread 2 = .ok (.iconst 4, 1) := op_7 kcX1_leastSpread (Nat.le_of_ble_eq_true rfl) rfl
theorem dX1_leastSpread_3 : decode cX1_leastSpread 3 = .ok (.invokestatic 41, 3) := op_184 (a := 0) (b := 41) kcX1_leastSpread (Nat.le_of_ble_eq_true rfl) rfl rfl rfl
theorem dX1_leastSpread_6 : decode cX1_leastSpread 6 = .ok (.invokevirtual 47, 3) := op_182 (a := 0) (b := 47) kcX1_leastSpread (Nat.le_of_ble_eq_true rfl) rfl rfl rfl
theorem dX1_leastSpread_9 : decode cX1_leastSpread 9 = .ok (.iconst 0, 1) := op_3 kcX1_leastSpread (Nat.le_of_ble_eq_true rfl) rfl
theorem dX1_leastSpread_10 : decode cX1_leastSpread 10 = .ok (.istore_n 2, 1) := op_61 kcX1_leastSpread (Nat.le_of_ble_eq_true rfl) rfl
theorem dX1_leastSpread_11 : decode cX1_leastSpread 11 = .ok (.iconst 0, 1) := op_3 kcX1_leastSpread (Nat.le_of_ble_eq_true rfl) rfl
theorem dX1_leastSpread_12 : decode cX1_leastSpread 12 = .ok (.istore_n 3, 1) := op_62 kcX1_leastSpread (Nat.le_of_ble_eq_true rfl) rfl
theorem dX1_leastSpread_13 : decode cX1_leastSpread 13 = .ok (.iload_n 3, 1) := op_29 kcX1_leastSpread (Nat.le_of_ble_eq_true rfl) rfl
theorem dX1_leastSpread_14 : decode cX1_leastSpread 14 = .ok (.sipush 625, 3) := by decide +kernel
theorem dX1_leastSpread_17 : decode cX1_leastSpread 17 = .ok (.if_icmp .ge 48, 3) := op_162 (a := 0) (b := 48) kcX1_leastSpread (Nat.le_of_ble_eq_true rfl) rfl rfl rfl (by decide)
theorem dX1_leastSpread_20 : decode cX1_leastSpread 20 = .ok (.iload_n 2, 1) := op_28 kcX1_leastSpread (Nat.le_of_ble_eq_true rfl) rfl
theorem dX1_leastSpread_21 : decode cX1_leastSpread 21 = .ok (.bipush (-4), 2) := op_16 (a := 252) kcX1_leastSpread (Nat.le_of_ble_eq_true rfl) rfl rfl (by decide)
theorem dX1_leastSpread_23 : decode cX1_leastSpread 23 = .ok (.if_icmp .eq 42, 3) := op_159 (a := 0) (b := 42) kcX1_leastSpread (Nat.le_of_ble_eq_true rfl) rfl rfl rfl (by decide)
theorem dX1_leastSpread_26 : decode cX1_leastSpread 26 = .ok (.iload_n 2, 1) := op_28 kcX1_leastSpread (Nat.le_of_ble_eq_true rfl) rfl
theorem dX1_leastSpread_27 : decode cX1_leastSpread 27 = .ok (.istore 4, 2) := op_54 (a := 4) kcX1_leastSpread (Nat.le_of_ble_eq_true rfl) rfl rfl
theorem dX1_leastSpread_29 : decode cX1_leastSpread 29 = .ok (.iload 4, 2) := op_21 (a := 4) kcX1_leastSpread (Nat.le_of_ble_eq_true rfl) rfl rfl
theorem dX1_leastSpread_31 : decode cX1_leastSpread 31 = .ok (.aload_n 0, 1) := op_42 kcX1_leastSpread (Nat.le_of_ble_eq_true rfl) rfl
theorem dX1_leastSpread_32 : decode cX1_leastSpread 32 = .ok (.getfield 30, 3) := op_180 (a := 0) (b := 30) kcX1_leastSpread (Nat.le_of_ble_eq_true rfl) rfl rfl rfl
theorem dX1_leastSpread_35 : decode cX1_leastSpread 35 = .ok (.if_icmp .ge 15, 3) := op_162 (a := 0) (b := 15) kcX1_leastSpread (Nat.le_of_ble_eq_true rfl) rfl rfl rfl (by decide)
theorem dX1_leastSpread_38 : decode cX1_leastSpread 38 = .ok (.aload_n 0, 1) := op_42 kcX1_leastSpread (Nat.le_of_ble_eq_true rfl) rfl
theorem dX1_leastSpread_39 : decode cX1_leastSpread 39 = .ok (.iload 4, 2) := op_21 (a := 4) kcX1_leastSpread (Nat.le_of_ble_eq_true rfl) rfl rfl
theorem dX1_leastSpread_41 : decode cX1_leastSpread 41 = .ok (.invokevirtual 51, 3) := op_182 (a := 0) (b := 51) kcX1_leastSpread (Nat.le_of_ble_eq_true rfl) rfl rfl rfl
theorem dX1_leastSpread_44 : decode cX1_leastSpread 44 = .ok (.iinc 4 1, 3) := by decide +kernel
theorem dX1_leastSpread_47 : decode cX1_leastSpread 47 = .ok (.goto (-18), 3) := op_167 (a := 255) (b := 238) kcX1_leastSpread (Nat.le_of_ble_eq_true rfl) rfl rfl rfl (by decide)
theorem dX1_leastSpread_50 : decode cX1_leastSpread 50 = .ok (.aload_n 0, 1) := op_42 kcX1_leastSpread (Nat.le_of_ble_eq_true rfl) rfl
theorem dX1_leastSpread_51 : decode cX1_leastSpread 51 = .ok (.invokevirtual 54, 3) := op_182 (a := 0) (b := 54) kcX1_leastSpread (Nat.le_of_ble_eq_true rfl) rfl rfl rfl
theorem dX1_leastSpread_54 : decode cX1_leastSpread 54 = .ok (.aload_n 0, 1) := op_42 kcX1_leastSpread (Nat.le_of_ble_eq_true rfl) rfl
theorem dX1_leastSpread_55 : decode cX1_leastSpread 55 = .ok (.invokevirtual 57, 3) := op_182 (a := 0) (b := 57) kcX1_leastSpread (Nat.le_of_ble_eq_true rfl) rfl rfl rfl
theorem dX1_leastSpread_58 : decode cX1_leastSpread 58 = .ok (.istore_n 2, 1) := op_61 kcX1_leastSpread (Nat.le_of_ble_eq_true rfl) rfl
theorem dX1_leastSpread_59 : decode cX1_leastSpread 59 = .ok (.iinc 3 1, 3) := by decide +kernel
theorem dX1_leastSpread_62 : decode cX1_leastSpread 62 = .ok (.goto (-49), 3) := op_167 (a := 255) (b := 207) kcX1_leastSpread (Nat.le_of_ble_eq_true rfl) rfl rfl rfl (by decide)
theorem dX1_leastSpread_65 : decode cX1_leastSpread 65 = .ok (.aload_n 0, 1) := op_42 kcX1_leastSpread (Nat.le_of_ble_eq_true rfl) rfl
theorem dX1_leastSpread_66 : decode cX1_leastSpread 66 = .ok (.getfield 34, 3) := op_180 (a := 0) (b := 34) kcX1_leastSpread (Nat.le_of_ble_eq_true rfl) rfl rfl rfl
theorem dX1_leastSpread_69 : decode cX1_leastSpread 69 = .ok (.ireturn, 1) := op_172 kcX1_leastSpread (Nat.le_of_ble_eq_true rfl) rfl
set_option maxRecDepth 20000 in
theorem gw_wsX2_serveAllKings : (wsX2_serveAllKings).all goodWord = true := by decide +kernel
set_option maxRecDepth 20000 in
theorem ggX1_begin_X2_serveAllKings : GoodIn wsX1_begin wsX2_serveAllKings := goodIn_r _ [23, 24, 25, 26, 27, 28, 22, 29, 30, 31, 32, 33, 34, 35, 36, 37, 38, 39, 40, 41, 42, 43, 44, 58, 59, 60, 61, 62, 72, 73, 74, 75, 76, 77, 78, 63, 64, 65, 66, 67, 68, 69, 70, 71] rfl gw_wsX2_serveAllKings
set_option maxRecDepth 20000 in
theorem gX1_begin_X2_serveAllKings : GoodIn wsX1_begin (wsV RX1 61 RX2 yX2_serveAllKings wsX2_serveAllKings) := goodIn_app (goodIn_of _ (by decide +kernel)) ggX1_begin_X2_serveAllKings
set_option maxRecDepth 20000 in
theorem gw_wsJ7_fill_53178 : (wsJ7_fill_53178).all goodWord = true := by decide +kernel
set_option maxRecDepth 20000 in
theorem ggX1_begin_J7_fill_53178 : GoodIn wsX1_begin wsJ7_fill_53178 := goodIn_r _ [48] rfl gw_wsJ7_fill_53178
set_option maxRecDepth 20000 in
theorem gX1_begin_J7_fill_53178 : GoodIn wsX1_begin (va_wsS RX1 90 yJ7_fill_53178 wsJ7_fill_53178) := goodIn_app (goodIn_of _ (by decide +kernel)) ggX1_begin_J7_fill_53178
theorem kcX1_begin : (cX1_begin).data.toList = cbs 0xb14f6300b44200b42500b42a031500b42a4f6000b44200b42500b42a031200b42a5a00b8031800b42a5a00b8030f00b42a5400b84f00b44b00b42500b42a030b00b42a034600b44200b42500b42a2200b5fc102a1e00b51b2a3d00b62500b42a 96 := by decide +kernel
theorem dX1_begin_0 : decode cX1_begin 0 = .ok (.aload_n 0, 1) := op_42 kcX1_begin (Nat.le_of_ble_eq_true rfl) rfl
theorem dX1_begin_1 : decode cX1_begin 1 = .ok (.getfield 37, 3) := op_180 (a := 0) (b := 37) kcX1_begin (Nat.le_of_ble_eq_true rfl) rfl rfl rfl
theorem dX1_begin_4 : decode cX1_begin 4 = .ok (.invokevirtual 61, 3) := op_182 (a := 0) (b := 61) kcX1_begin (Nat.le_of_ble_eq_true rfl) rfl rfl rfl
theorem dX1_begin_7 : decode cX1_begin 7 = .ok (.aload_n 0, 1) := op_42 kcX1_begin (Nat.le_of_ble_eq_true rfl) rfl
theorem dX1_begin_8 : decode cX1_begin 8 = .ok (.iload_n 1, 1) := op_27 kcX1_begin (Nat.le_of_ble_eq_true rfl) rfl
theorem dX1_begin_9 : decode cX1_begin 9 = .ok (.putfield 30, 3) := op_181 (a := 0) (b := 30) kcX1_begin (Nat.le_of_ble_eq_true rfl) rfl rfl rfl
theorem dX1_begin_12 : decode cX1_begin 12 = .ok (.aload_n 0, 1) := op_42 kcX1_begin (Nat.le_of_ble_eq_true rfl) rfl
theorem dX1_begin_13 : decode cX1_begin 13 = .ok (.bipush (-4), 2) := op_16 (a := 252) kcX1_begin (Nat.le_of_ble_eq_true rfl) rfl rfl (by decide)
theorem dX1_begin_15 : decode cX1_begin 15 = .ok (.putfield 34, 3) := op_181 (a := 0) (b := 34) kcX1_begin (Nat.le_of_ble_eq_true rfl) rfl rfl rfl
theorem dX1_begin_18 : decode cX1_begin 18 = .ok (.aload_n 0, 1) := op_42 kcX1_begin (Nat.le_of_ble_eq_true rfl) rfl
theorem dX1_begin_19 : decode cX1_begin 19 = .ok (.getfield 37, 3) := op_180 (a := 0) (b := 37) kcX1_begin (Nat.le_of_ble_eq_true rfl) rfl rfl rfl
theorem dX1_begin_22 : decode cX1_begin 22 = .ok (.getfield 66, 3) := op_180 (a := 0) (b := 66) kcX1_begin (Nat.le_of_ble_eq_true rfl) rfl rfl rfl
theorem dX1_begin_25 : decode cX1_begin 25 = .ok (.getfield 70, 3) := op_180 (a := 0) (b := 70) kcX1_begin (Nat.le_of_ble_eq_true rfl) rfl rfl rfl
theorem dX1_begin_28 : decode cX1_begin 28 = .ok (.iconst 0, 1) := op_3 kcX1_begin (Nat.le_of_ble_eq_true rfl) rfl
theorem dX1_begin_29 : decode cX1_begin 29 = .ok (.aload_n 0, 1) := op_42 kcX1_begin (Nat.le_of_ble_eq_true rfl) rfl
theorem dX1_begin_30 : decode cX1_begin 30 = .ok (.getfield 11, 3) := op_180 (a := 0) (b := 11) kcX1_begin (Nat.le_of_ble_eq_true rfl) rfl rfl rfl
theorem dX1_begin_33 : decode cX1_begin 33 = .ok (.iconst 0, 1) := op_3 kcX1_begin (Nat.le_of_ble_eq_true rfl) rfl
theorem dX1_begin_34 : decode cX1_begin 34 = .ok (.aload_n 0, 1) := op_42 kcX1_begin (Nat.le_of_ble_eq_true rfl) rfl
theorem dX1_begin_35 : decode cX1_begin 35 = .ok (.getfield 37, 3) := op_180 (a := 0) (b := 37) kcX1_begin (Nat.le_of_ble_eq_true rfl) rfl rfl rfl
theorem dX1_begin_38 : decode cX1_begin 38 = .ok (.getfield 75, 3) := op_180 (a := 0) (b := 75) kcX1_begin (Nat.le_of_ble_eq_true rfl) rfl rfl rfl
theorem dX1_begin_41 : decode cX1_begin 41 = .ok (.getfield 79, 3) := op_180 (a := 0) (b := 79) kcX1_begin (Nat.le_of_ble_eq_true rfl) rfl rfl rfl
theorem dX1_begin_44 : decode cX1_begin 44 = .ok (.invokestatic 84, 3) := op_184 (a := 0) (b := 84) kcX1_begin (Nat.le_of_ble_eq_true rfl) rfl rfl rfl
theorem dX1_begin_47 : decode cX1_begin 47 = .ok (.aload_n 0, 1) := op_42 kcX1_begin (Nat.le_of_ble_eq_true rfl) rfl
theorem dX1_begin_48 : decode cX1_begin 48 = .ok (.getfield 15, 3) := op_180 (a := 0) (b := 15) kcX1_begin (Nat.le_of_ble_eq_true rfl) rfl rfl rfl
theorem dX1_begin_51 : decode cX1_begin 51 = .ok (.iconst 0, 1) := op_3 kcX1_begin (Nat.le_of_ble_eq_true rfl) rfl
theorem dX1_begin_52 : decode cX1_begin 52 = .ok (.invokestatic 90, 3) := op_184 (a := 0) (b := 90) kcX1_begin (Nat.le_of_ble_eq_true rfl) rfl rfl rfl
theorem dX1_begin_55 : decode cX1_begin 55 = .ok (.aload_n 0, 1) := op_42 kcX1_begin (Nat.le_of_ble_eq_true rfl) rfl
theorem dX1_begin_56 : decode cX1_begin 56 = .ok (.getfield 24, 3) := op_180 (a := 0) (b := 24) kcX1_begin (Nat.le_of_ble_eq_true rfl) rfl rfl rfl
theorem dX1_begin_59 : decode cX1_begin 59 = .ok (.iconst 0, 1) := op_3 kcX1_begin (Nat.le_of_ble_eq_true rfl) rfl
theorem dX1_begin_60 : decode cX1_begin 60 = .ok (.invokestatic 90, 3) := op_184 (a := 0) (b := 90) kcX1_begin (Nat.le_of_ble_eq_true rfl) rfl rfl rfl
theorem dX1_begin_63 : decode cX1_begin 63 = .ok (.aload_n 0, 1) := op_42 kcX1_begin (Nat.le_of_ble_eq_true rfl) rfl
theorem dX1_begin_64 : decode cX1_begin 64 = .ok (.getfield 18, 3) := op_180 (a := 0) (b := 18) kcX1_begin (Nat.le_of_ble_eq_true rfl) rfl rfl rfl
theorem dX1_begin_67 : decode cX1_begin 67 = .ok (.iconst 0, 1) := op_3 kcX1_begin (Nat.le_of_ble_eq_true rfl) rfl
theorem dX1_begin_68 : decode cX1_begin 68 = .ok (.aload_n 0, 1) := op_42 kcX1_begin (Nat.le_of_ble_eq_true rfl) rfl
theorem dX1_begin_69 : decode cX1_begin 69 = .ok (.getfield 37, 3) := op_180 (a := 0) (b := 37) kcX1_begin (Nat.le_of_ble_eq_true rfl) rfl rfl rfl
theorem dX1_begin_72 : decode cX1_begin 72 = .ok (.getfield 66, 3) := op_180 (a := 0) (b := 66) kcX1_begin (Nat.le_of_ble_eq_true rfl) rfl rfl rfl
theorem dX1_begin_75 : decode cX1_begin 75 = .ok (.getfield 96, 3) := op_180 (a := 0) (b := 96) kcX1_begin (Nat.le_of_ble_eq_true rfl) rfl rfl rfl
theorem dX1_begin_78 : decode cX1_begin 78 = .ok (.iastore, 1) := op_79 kcX1_begin (Nat.le_of_ble_eq_true rfl) rfl
theorem dX1_begin_79 : decode cX1_begin 79 = .ok (.aload_n 0, 1) := op_42 kcX1_begin (Nat.le_of_ble_eq_true rfl) rfl
theorem dX1_begin_80 : decode cX1_begin 80 = .ok (.getfield 21, 3) := op_180 (a := 0) (b := 21) kcX1_begin (Nat.le_of_ble_eq_true rfl) rfl rfl rfl
theorem dX1_begin_83 : decode cX1_begin 83 = .ok (.iconst 0, 1) := op_3 kcX1_begin (Nat.le_of_ble_eq_true rfl) rfl
theorem dX1_begin_84 : decode cX1_begin 84 = .ok (.aload_n 0, 1) := op_42 kcX1_begin (Nat.le_of_ble_eq_true rfl) rfl
theorem dX1_begin_85 : decode cX1_begin 85 = .ok (.getfield 37, 3) := op_180 (a := 0) (b := 37) kcX1_begin (Nat.le_of_ble_eq_true rfl) rfl rfl rfl
theorem dX1_begin_88 : decode cX1_begin 88 = .ok (.getfield 66, 3) := op_180 (a := 0) (b := 66) kcX1_begin (Nat.le_of_ble_eq_true rfl) rfl rfl rfl
theorem dX1_begin_91 : decode cX1_begin 91 = .ok (.getfield 99, 3) := op_180 (a := 0) (b := 99) kcX1_begin (Nat.le_of_ble_eq_true rfl) rfl rfl rfl
theorem dX1_begin_94 : decode cX1_begin 94 = .ok (.iastore, 1) := op_79 kcX1_begin (Nat.le_of_ble_eq_true rfl) rfl
theorem dX1_begin_95 : decode cX1_begin 95 = .ok (.return_, 1) := op_177 kcX1_begin (Nat.le_of_ble_eq_true rfl) rfl
set_option maxRecDepth 20000 in
theorem gw_wsX6_placeAfter : (wsX6_placeAfter).all goodWord = true := by decide +kernel
set_option maxRecDepth 20000 in
theorem ggX1_goOn_X6_placeAfter : GoodIn wsX1_goOn wsX6_placeAfter := goodIn_r _ [13, 14, 40, 41, 42, 43, 44, 45, 46] rfl gw_wsX6_placeAfter
set_option maxRecDepth 20000 in
theorem gX1_goOn_X6_placeAfter : GoodIn wsX1_goOn (wsV RX1 102 RX6 yX6_placeAfter wsX6_placeAfter) := goodIn_app (goodIn_of _ (by decide +kernel)) ggX1_goOn_X6_placeAfter
set_option maxRecDepth 20000 in
theorem gw_wsX2_placeOf : (wsX2_placeOf).all goodWord = true := by decide +kernel
set_option maxRecDepth 20000 in
theorem ggX1_goOn_X2_placeOf : GoodIn wsX1_goOn wsX2_placeOf := goodIn_r _ [19, 20, 35, 36, 37, 38, 39] rfl gw_wsX2_placeOf
set_option maxRecDepth 20000 in
theorem gX1_goOn_X2_placeOf : GoodIn wsX1_goOn (wsV RX1 105 RX2 yX2_placeOf wsX2_placeOf) := goodIn_app (goodIn_of _ (by decide +kernel)) ggX1_goOn_X2_placeOf
set_option maxRecDepth 20000 in
theorem gw_wsX2_holderOf : (wsX2_holderOf).all goodWord = true := by decide +kernel
set_option maxRecDepth 20000 in
theorem ggX1_goOn_X2_holderOf : GoodIn wsX1_goOn wsX2_holderOf := goodIn_r _ [24, 25, 35, 36, 37, 38, 39] rfl gw_wsX2_holderOf
set_option maxRecDepth 20000 in
theorem gX1_goOn_X2_holderOf : GoodIn wsX1_goOn (wsV RX1 108 RX2 yX2_holderOf wsX2_holderOf) := goodIn_app (goodIn_of _ (by decide +kernel)) ggX1_goOn_X2_holderOf
theorem kcX1_goOn : (cX1_goOn).data.toList = cbs 0xb14f6c00b62e60041b1500b42a1d2500b42a60041b1200b42a4f6600b62e1b1500b42a1c4b00b42500b42a60041b1500b42ac7ffa70106844f602e606900b606151d2500b42a05150b00b42a2e60061504150f00b42a60061505150f00b42a3000a24f00b44b00b42500b42a0615063603cfffa70106844f2e60061504150b00b42a606600b606151c4b00b42500b42a05150b00b42a2800a24f00b44b00b42500b42a06150636030536600710041504366807101b3e2e1b1200b42a3d2e1b1800b42a 195 := by decide +kernel
theorem dX1_goOn_0 : decode cX1_goOn 0 = .ok (.aload_n 0, 1) := op_42 kcX1_goOn (Nat.le_of_ble_eq_true rfl) rfl
theorem dX1_goOn_1 : decode cX1_goOn 1 = .ok (.getfield 24, 3) := op_180 (a := 0) (b := 24) kcX1_goOn (Nat.le_of_ble_eq_true rfl) rfl rfl rfl
theorem dX1_goOn_4 : decode cX1_goOn 4 = .ok (.iload_n 1, 1) := op_27 kcX1_goOn (Nat.le_of_ble_eq_true rfl) rfl
theorem dX1_goOn_5 : decode cX1_goOn 5 = .ok (.iaload, 1) := op_46 kcX1_goOn (Nat.le_of_ble_eq_true rfl) rfl
theorem dX1_goOn_6 : decode cX1_goOn 6 = .ok (.istore_n 2, 1) := op_61 kcX1_goOn (Nat.le_of_ble_eq_true rfl) rfl
theorem dX1_goOn_7 : decode cX1_goOn 7 = .ok (.aload_n 0, 1) := op_42 kcX1_goOn (Nat.le_of_ble_eq_true rfl) rfl
theorem dX1_goOn_8 : decode cX1_goOn 8 = .ok (.getfield 18, 3) := op_180 (a := 0) (b := 18) kcX1_goOn (Nat.le_of_ble_eq_true rfl) rfl rfl rfl
theorem dX1_goOn_11 : decode cX1_goOn 11 = .ok (.iload_n 1, 1) := op_27 kcX1_goOn (Nat.le_of_ble_eq_true rfl) rfl
theorem dX1_goOn_12 : decode cX1_goOn 12 = .ok (.iaload, 1) := op_46 kcX1_goOn (Nat.le_of_ble_eq_true rfl) rfl
theorem dX1_goOn_13 : decode cX1_goOn 13 = .ok (.istore_n 3, 1) := op_62 kcX1_goOn (Nat.le_of_ble_eq_true rfl) rfl
theorem dX1_goOn_14 : decode cX1_goOn 14 = .ok (.iload_n 1, 1) := op_27 kcX1_goOn (Nat.le_of_ble_eq_true rfl) rfl
theorem dX1_goOn_15 : decode cX1_goOn 15 = .ok (.bipush 7, 2) := op_16 (a := 7) kcX1_goOn (Nat.le_of_ble_eq_true rfl) rfl rfl (by decide)
theorem dX1_goOn_17 : decode cX1_goOn 17 = .ok (.imul, 1) := op_104 kcX1_goOn (Nat.le_of_ble_eq_true rfl) rfl
theorem dX1_goOn_18 : decode cX1_goOn 18 = .ok (.istore 4, 2) := op_54 (a := 4) kcX1_goOn (Nat.le_of_ble_eq_true rfl) rfl rfl
theorem dX1_goOn_20 : decode cX1_goOn 20 = .ok (.iload 4, 2) := op_21 (a := 4) kcX1_goOn (Nat.le_of_ble_eq_true rfl) rfl rfl
theorem dX1_goOn_22 : decode cX1_goOn 22 = .ok (.bipush 7, 2) := op_16 (a := 7) kcX1_goOn (Nat.le_of_ble_eq_true rfl) rfl rfl (by decide)
theorem dX1_goOn_24 : decode cX1_goOn 24 = .ok (.iadd, 1) := op_96 kcX1_goOn (Nat.le_of_ble_eq_true rfl) rfl
theorem dX1_goOn_25 : decode cX1_goOn 25 = .ok (.istore 5, 2) := op_54 (a := 5) kcX1_goOn (Nat.le_of_ble_eq_true rfl) rfl rfl
theorem dX1_goOn_27 : decode cX1_goOn 27 = .ok (.iconst 0, 1) := op_3 kcX1_goOn (Nat.le_of_ble_eq_true rfl) rfl
theorem dX1_goOn_28 : decode cX1_goOn 28 = .ok (.istore 6, 2) := op_54 (a := 6) kcX1_goOn (Nat.le_of_ble_eq_true rfl) rfl rfl
theorem dX1_goOn_30 : decode cX1_goOn 30 = .ok (.iload 6, 2) := op_21 (a := 6) kcX1_goOn (Nat.le_of_ble_eq_true rfl) rfl rfl
theorem dX1_goOn_32 : decode cX1_goOn 32 = .ok (.aload_n 0, 1) := op_42 kcX1_goOn (Nat.le_of_ble_eq_true rfl) rfl
theorem dX1_goOn_33 : decode cX1_goOn 33 = .ok (.getfield 37, 3) := op_180 (a := 0) (b := 37) kcX1_goOn (Nat.le_of_ble_eq_true rfl) rfl rfl rfl
theorem dX1_goOn_36 : decode cX1_goOn 36 = .ok (.getfield 75, 3) := op_180 (a := 0) (b := 75) kcX1_goOn (Nat.le_of_ble_eq_true rfl) rfl rfl rfl
theorem dX1_goOn_39 : decode cX1_goOn 39 = .ok (.getfield 79, 3) := op_180 (a := 0) (b := 79) kcX1_goOn (Nat.le_of_ble_eq_true rfl) rfl rfl rfl
theorem dX1_goOn_42 : decode cX1_goOn 42 = .ok (.if_icmp .ge 40, 3) := op_162 (a := 0) (b := 40) kcX1_goOn (Nat.le_of_ble_eq_true rfl) rfl rfl rfl (by decide)
theorem dX1_goOn_45 : decode cX1_goOn 45 = .ok (.aload_n 0, 1) := op_42 kcX1_goOn (Nat.le_of_ble_eq_true rfl) rfl
theorem dX1_goOn_46 : decode cX1_goOn 46 = .ok (.getfield 11, 3) := op_180 (a := 0) (b := 11) kcX1_goOn (Nat.le_of_ble_eq_true rfl) rfl rfl rfl
theorem dX1_goOn_49 : decode cX1_goOn 49 = .ok (.iload 5, 2) := op_21 (a := 5) kcX1_goOn (Nat.le_of_ble_eq_true rfl) rfl rfl
theorem dX1_goOn_51 : decode cX1_goOn 51 = .ok (.aload_n 0, 1) := op_42 kcX1_goOn (Nat.le_of_ble_eq_true rfl) rfl
theorem dX1_goOn_52 : decode cX1_goOn 52 = .ok (.getfield 37, 3) := op_180 (a := 0) (b := 37) kcX1_goOn (Nat.le_of_ble_eq_true rfl) rfl rfl rfl
theorem dX1_goOn_55 : decode cX1_goOn 55 = .ok (.getfield 75, 3) := op_180 (a := 0) (b := 75) kcX1_goOn (Nat.le_of_ble_eq_true rfl) rfl rfl rfl
theorem dX1_goOn_58 : decode cX1_goOn 58 = .ok (.iload_n 2, 1) := op_28 kcX1_goOn (Nat.le_of_ble_eq_true rfl) rfl
theorem dX1_goOn_59 : decode cX1_goOn 59 = .ok (.iload 6, 2) := op_21 (a := 6) kcX1_goOn (Nat.le_of_ble_eq_true rfl) rfl rfl
theorem dX1_goOn_61 : decode cX1_goOn 61 = .ok (.invokevirtual 102, 3) := op_182 (a := 0) (b := 102) kcX1_goOn (Nat.le_of_ble_eq_true rfl) rfl rfl rfl
theorem dX1_goOn_64 : decode cX1_goOn 64 = .ok (.iadd, 1) := op_96 kcX1_goOn (Nat.le_of_ble_eq_true rfl) rfl
theorem dX1_goOn_65 : decode cX1_goOn 65 = .ok (.aload_n 0, 1) := op_42 kcX1_goOn (Nat.le_of_ble_eq_true rfl) rfl
theorem dX1_goOn_66 : decode cX1_goOn 66 = .ok (.getfield 11, 3) := op_180 (a := 0) (b := 11) kcX1_goOn (Nat.le_of_ble_eq_true rfl) rfl rfl rfl
theorem dX1_goOn_69 : decode cX1_goOn 69 = .ok (.iload 4, 2) := op_21 (a := 4) kcX1_goOn (Nat.le_of_ble_eq_true rfl) rfl rfl
theorem dX1_goOn_71 : decode cX1_goOn 71 = .ok (.iload 6, 2) := op_21 (a := 6) kcX1_goOn (Nat.le_of_ble_eq_true rfl) rfl rfl
theorem dX1_goOn_73 : decode cX1_goOn 73 = .ok (.iadd, 1) := op_96 kcX1_goOn (Nat.le_of_ble_eq_true rfl) rfl
theorem dX1_goOn_74 : decode cX1_goOn 74 = .ok (.iaload, 1) := op_46 kcX1_goOn (Nat.le_of_ble_eq_true rfl) rfl
theorem dX1_goOn_75 : decode cX1_goOn 75 = .ok (.iastore, 1) := op_79 kcX1_goOn (Nat.le_of_ble_eq_true rfl) rfl
theorem dX1_goOn_76 : decode cX1_goOn 76 = .ok (.iinc 6 1, 3) := by decide +kernel
theorem dX1_goOn_79 : decode cX1_goOn 79 = .ok (.goto (-49), 3) := op_167 (a := 255) (b := 207) kcX1_goOn (Nat.le_of_ble_eq_true rfl) rfl rfl rfl (by decide)
theorem dX1_goOn_82 : decode cX1_goOn 82 = .ok (.iconst 0, 1) := op_3 kcX1_goOn (Nat.le_of_ble_eq_true rfl) rfl
theorem dX1_goOn_83 : decode cX1_goOn 83 = .ok (.istore 6, 2) := op_54 (a := 6) kcX1_goOn (Nat.le_of_ble_eq_true rfl) rfl rfl
theorem dX1_goOn_85 : decode cX1_goOn 85 = .ok (.iload 6, 2) := op_21 (a := 6) kcX1_goOn (Nat.le_of_ble_eq_true rfl) rfl rfl
theorem dX1_goOn_87 : decode cX1_goOn 87 = .ok (.aload_n 0, 1) := op_42 kcX1_goOn (Nat.le_of_ble_eq_true rfl) rfl
theorem dX1_goOn_88 : decode cX1_goOn 88 = .ok (.getfield 37, 3) := op_180 (a := 0) (b := 37) kcX1_goOn (Nat.le_of_ble_eq_true rfl) rfl rfl rfl
theorem dX1_goOn_91 : decode cX1_goOn 91 = .ok (.getfield 75, 3) := op_180 (a := 0) (b := 75) kcX1_goOn (Nat.le_of_ble_eq_true rfl) rfl rfl rfl
theorem dX1_goOn_94 : decode cX1_goOn 94 = .ok (.getfield 79, 3) := op_180 (a := 0) (b := 79) kcX1_goOn (Nat.le_of_ble_eq_true rfl) rfl rfl rfl
theorem dX1_goOn_97 : decode cX1_goOn 97 = .ok (.if_icmp .ge 48, 3) := op_162 (a := 0) (b := 48) kcX1_goOn (Nat.le_of_ble_eq_true rfl) rfl rfl rfl (by decide)
theorem dX1_goOn_100 : decode cX1_goOn 100 = .ok (.aload_n 0, 1) := op_42 kcX1_goOn (Nat.le_of_ble_eq_true rfl) rfl
theorem dX1_goOn_101 : decode cX1_goOn 101 = .ok (.getfield 15, 3) := op_180 (a := 0) (b := 15) kcX1_goOn (Nat.le_of_ble_eq_true rfl) rfl rfl rfl
theorem dX1_goOn_104 : decode cX1_goOn 104 = .ok (.iload 5, 2) := op_21 (a := 5) kcX1_goOn (Nat.le_of_ble_eq_true rfl) rfl rfl
theorem dX1_goOn_106 : decode cX1_goOn 106 = .ok (.iload 6, 2) := op_21 (a := 6) kcX1_goOn (Nat.le_of_ble_eq_true rfl) rfl rfl
theorem dX1_goOn_108 : decode cX1_goOn 108 = .ok (.iadd, 1) := op_96 kcX1_goOn (Nat.le_of_ble_eq_true rfl) rfl
theorem dX1_goOn_109 : decode cX1_goOn 109 = .ok (.aload_n 0, 1) := op_42 kcX1_goOn (Nat.le_of_ble_eq_true rfl) rfl
theorem dX1_goOn_110 : decode cX1_goOn 110 = .ok (.getfield 15, 3) := op_180 (a := 0) (b := 15) kcX1_goOn (Nat.le_of_ble_eq_true rfl) rfl rfl rfl
theorem dX1_goOn_113 : decode cX1_goOn 113 = .ok (.iload 4, 2) := op_21 (a := 4) kcX1_goOn (Nat.le_of_ble_eq_true rfl) rfl rfl
theorem dX1_goOn_115 : decode cX1_goOn 115 = .ok (.iload 6, 2) := op_21 (a := 6) kcX1_goOn (Nat.le_of_ble_eq_true rfl) rfl rfl
theorem dX1_goOn_117 : decode cX1_goOn 117 = .ok (.iadd, 1) := op_96 kcX1_goOn (Nat.le_of_ble_eq_true rfl) rfl
theorem dX1_goOn_118 : decode cX1_goOn 118 = .ok (.iaload, 1) := op_46 kcX1_goOn (Nat.le_of_ble_eq_true rfl) rfl
theorem dX1_goOn_119 : decode cX1_goOn 119 = .ok (.aload_n 0, 1) := op_42 kcX1_goOn (Nat.le_of_ble_eq_true rfl) rfl
theorem dX1_goOn_120 : decode cX1_goOn 120 = .ok (.getfield 11, 3) := op_180 (a := 0) (b := 11) kcX1_goOn (Nat.le_of_ble_eq_true rfl) rfl rfl rfl
theorem dX1_goOn_123 : decode cX1_goOn 123 = .ok (.iload 5, 2) := op_21 (a := 5) kcX1_goOn (Nat.le_of_ble_eq_true rfl) rfl rfl
theorem dX1_goOn_125 : decode cX1_goOn 125 = .ok (.aload_n 0, 1) := op_42 kcX1_goOn (Nat.le_of_ble_eq_true rfl) rfl
theorem dX1_goOn_126 : decode cX1_goOn 126 = .ok (.getfield 37, 3) := op_180 (a := 0) (b := 37) kcX1_goOn (Nat.le_of_ble_eq_true rfl) rfl rfl rfl
theorem dX1_goOn_129 : decode cX1_goOn 129 = .ok (.iload_n 3, 1) := op_29 kcX1_goOn (Nat.le_of_ble_eq_true rfl) rfl
theorem dX1_goOn_130 : decode cX1_goOn 130 = .ok (.iload 6, 2) := op_21 (a := 6) kcX1_goOn (Nat.le_of_ble_eq_true rfl) rfl rfl
theorem dX1_goOn_132 : decode cX1_goOn 132 = .ok (.invokevirtual 105, 3) := op_182 (a := 0) (b := 105) kcX1_goOn (Nat.le_of_ble_eq_true rfl) rfl rfl rfl
theorem dX1_goOn_135 : decode cX1_goOn 135 = .ok (.iadd, 1) := op_96 kcX1_goOn (Nat.le_of_ble_eq_true rfl) rfl
theorem dX1_goOn_136 : decode cX1_goOn 136 = .ok (.iaload, 1) := op_46 kcX1_goOn (Nat.le_of_ble_eq_true rfl) rfl
theorem dX1_goOn_137 : decode cX1_goOn 137 = .ok (.iadd, 1) := op_96 kcX1_goOn (Nat.le_of_ble_eq_true rfl) rfl
theorem dX1_goOn_138 : decode cX1_goOn 138 = .ok (.iastore, 1) := op_79 kcX1_goOn (Nat.le_of_ble_eq_true rfl) rfl
theorem dX1_goOn_139 : decode cX1_goOn 139 = .ok (.iinc 6 1, 3) := by decide +kernel
theorem dX1_goOn_142 : decode cX1_goOn 142 = .ok (.goto (-57), 3) := op_167 (a := 255) (b := 199) kcX1_goOn (Nat.le_of_ble_eq_true rfl) rfl rfl rfl (by decide)
theorem dX1_goOn_145 : decode cX1_goOn 145 = .ok (.aload_n 0, 1) := op_42 kcX1_goOn (Nat.le_of_ble_eq_true rfl) rfl
theorem dX1_goOn_146 : decode cX1_goOn 146 = .ok (.getfield 21, 3) := op_180 (a := 0) (b := 21) kcX1_goOn (Nat.le_of_ble_eq_true rfl) rfl rfl rfl
theorem dX1_goOn_149 : decode cX1_goOn 149 = .ok (.iload_n 1, 1) := op_27 kcX1_goOn (Nat.le_of_ble_eq_true rfl) rfl
theorem dX1_goOn_150 : decode cX1_goOn 150 = .ok (.iconst 1, 1) := op_4 kcX1_goOn (Nat.le_of_ble_eq_true rfl) rfl
theorem dX1_goOn_151 : decode cX1_goOn 151 = .ok (.iadd, 1) := op_96 kcX1_goOn (Nat.le_of_ble_eq_true rfl) rfl
theorem dX1_goOn_152 : decode cX1_goOn 152 = .ok (.aload_n 0, 1) := op_42 kcX1_goOn (Nat.le_of_ble_eq_true rfl) rfl
theorem dX1_goOn_153 : decode cX1_goOn 153 = .ok (.getfield 37, 3) := op_180 (a := 0) (b := 37) kcX1_goOn (Nat.le_of_ble_eq_true rfl) rfl rfl rfl
theorem dX1_goOn_156 : decode cX1_goOn 156 = .ok (.getfield 75, 3) := op_180 (a := 0) (b := 75) kcX1_goOn (Nat.le_of_ble_eq_true rfl) rfl rfl rfl
theorem dX1_goOn_159 : decode cX1_goOn 159 = .ok (.iload_n 2, 1) := op_28 kcX1_goOn (Nat.le_of_ble_eq_true rfl) rfl
theorem dX1_goOn_160 : decode cX1_goOn 160 = .ok (.aload_n 0, 1) := op_42 kcX1_goOn (Nat.le_of_ble_eq_true rfl) rfl
theorem dX1_goOn_161 : decode cX1_goOn 161 = .ok (.getfield 21, 3) := op_180 (a := 0) (b := 21) kcX1_goOn (Nat.le_of_ble_eq_true rfl) rfl rfl rfl
theorem dX1_goOn_164 : decode cX1_goOn 164 = .ok (.iload_n 1, 1) := op_27 kcX1_goOn (Nat.le_of_ble_eq_true rfl) rfl
theorem dX1_goOn_165 : decode cX1_goOn 165 = .ok (.iaload, 1) := op_46 kcX1_goOn (Nat.le_of_ble_eq_true rfl) rfl
theorem dX1_goOn_166 : decode cX1_goOn 166 = .ok (.invokevirtual 102, 3) := op_182 (a := 0) (b := 102) kcX1_goOn (Nat.le_of_ble_eq_true rfl) rfl rfl rfl
theorem dX1_goOn_169 : decode cX1_goOn 169 = .ok (.iastore, 1) := op_79 kcX1_goOn (Nat.le_of_ble_eq_true rfl) rfl
theorem dX1_goOn_170 : decode cX1_goOn 170 = .ok (.aload_n 0, 1) := op_42 kcX1_goOn (Nat.le_of_ble_eq_true rfl) rfl
theorem dX1_goOn_171 : decode cX1_goOn 171 = .ok (.getfield 18, 3) := op_180 (a := 0) (b := 18) kcX1_goOn (Nat.le_of_ble_eq_true rfl) rfl rfl rfl
theorem dX1_goOn_174 : decode cX1_goOn 174 = .ok (.iload_n 1, 1) := op_27 kcX1_goOn (Nat.le_of_ble_eq_true rfl) rfl
theorem dX1_goOn_175 : decode cX1_goOn 175 = .ok (.iconst 1, 1) := op_4 kcX1_goOn (Nat.le_of_ble_eq_true rfl) rfl
theorem dX1_goOn_176 : decode cX1_goOn 176 = .ok (.iadd, 1) := op_96 kcX1_goOn (Nat.le_of_ble_eq_true rfl) rfl
theorem dX1_goOn_177 : decode cX1_goOn 177 = .ok (.aload_n 0, 1) := op_42 kcX1_goOn (Nat.le_of_ble_eq_true rfl) rfl
theorem dX1_goOn_178 : decode cX1_goOn 178 = .ok (.getfield 37, 3) := op_180 (a := 0) (b := 37) kcX1_goOn (Nat.le_of_ble_eq_true rfl) rfl rfl rfl
theorem dX1_goOn_181 : decode cX1_goOn 181 = .ok (.iload_n 3, 1) := op_29 kcX1_goOn (Nat.le_of_ble_eq_true rfl) rfl
theorem dX1_goOn_182 : decode cX1_goOn 182 = .ok (.aload_n 0, 1) := op_42 kcX1_goOn (Nat.le_of_ble_eq_true rfl) rfl
theorem dX1_goOn_183 : decode cX1_goOn 183 = .ok (.getfield 21, 3) := op_180 (a := 0) (b := 21) kcX1_goOn (Nat.le_of_ble_eq_true rfl) rfl rfl rfl
theorem dX1_goOn_186 : decode cX1_goOn 186 = .ok (.iload_n 1, 1) := op_27 kcX1_goOn (Nat.le_of_ble_eq_true rfl) rfl
theorem dX1_goOn_187 : decode cX1_goOn 187 = .ok (.iconst 1, 1) := op_4 kcX1_goOn (Nat.le_of_ble_eq_true rfl) rfl
theorem dX1_goOn_188 : decode cX1_goOn 188 = .ok (.iadd, 1) := op_96 kcX1_goOn (Nat.le_of_ble_eq_true rfl) rfl
theorem dX1_goOn_189 : decode cX1_goOn 189 = .ok (.iaload, 1) := op_46 kcX1_goOn (Nat.le_of_ble_eq_true rfl) rfl
theorem dX1_goOn_190 : decode cX1_goOn 190 = .ok (.invokevirtual 108, 3) := op_182 (a := 0) (b := 108) kcX1_goOn (Nat.le_of_ble_eq_true rfl) rfl rfl rfl
theorem dX1_goOn_193 : decode cX1_goOn 193 = .ok (.iastore, 1) := op_79 kcX1_goOn (Nat.le_of_ble_eq_true rfl) rfl
theorem dX1_goOn_194 : decode cX1_goOn 194 = .ok (.return_, 1) := op_177 kcX1_goOn (Nat.le_of_ble_eq_true rfl) rfl
theorem kcX1_weigh : (cX1_weigh).data.toList = cbs 0xb15400b81e00b42a031b00b42a031800b42a2200b5641c1b2a1b00a22200b42a641c1b0d009ffc102200b42ac9ffa70103843d2900b82e601d6807101e00b42a0f00b42a1c3c6f00b82e601d6807101e00b42a0f00b42a1b2f00a24f00b44b00b42500b42a1d3e043d1b3c2e6807101e00b42a0f00b42a 119 := by decide +kernel
theorem dX1_weigh_0 : decode cX1_weigh 0 = .ok (.aload_n 0, 1) := op_42 kcX1_weigh (Nat.le_of_ble_eq_true rfl) rfl
theorem dX1_weigh_1 : decode cX1_weigh 1 = .ok (.getfield 15, 3) := op_180 (a := 0) (b := 15) kcX1_weigh (Nat.le_of_ble_eq_true rfl) rfl rfl rfl
theorem dX1_weigh_4 : decode cX1_weigh 4 = .ok (.aload_n 0, 1) := op_42 kcX1_weigh (Nat.le_of_ble_eq_true rfl) rfl
theorem dX1_weigh_5 : decode cX1_weigh 5 = .ok (.getfield 30, 3) := op_180 (a := 0) (b := 30) kcX1_weigh (Nat.le_of_ble_eq_true rfl) rfl rfl rfl
theorem dX1_weigh_8 : decode cX1_weigh 8 = .ok (.bipush 7, 2) := op_16 (a := 7) kcX1_weigh (Nat.le_of_ble_eq_true rfl) rfl rfl (by decide)
theorem dX1_weigh_10 : decode cX1_weigh 10 = .ok (.imul, 1) := op_104 kcX1_weigh (Nat.le_of_ble_eq_true rfl) rfl
theorem dX1_weigh_11 : decode cX1_weigh 11 = .ok (.iaload, 1) := op_46 kcX1_weigh (Nat.le_of_ble_eq_true rfl) rfl
theorem dX1_weigh_12 : decode cX1_weigh 12 = .ok (.istore_n 1, 1) := op_60 kcX1_weigh (Nat.le_of_ble_eq_true rfl) rfl
theorem dX1_weigh_13 : decode cX1_weigh 13 = .ok (.iload_n 1, 1) := op_27 kcX1_weigh (Nat.le_of_ble_eq_true rfl) rfl
theorem dX1_weigh_14 : decode cX1_weigh 14 = .ok (.istore_n 2, 1) := op_61 kcX1_weigh (Nat.le_of_ble_eq_true rfl) rfl
theorem dX1_weigh_15 : decode cX1_weigh 15 = .ok (.iconst 1, 1) := op_4 kcX1_weigh (Nat.le_of_ble_eq_true rfl) rfl
theorem dX1_weigh_16 : decode cX1_weigh 16 = .ok (.istore_n 3, 1) := op_62 kcX1_weigh (Nat.le_of_ble_eq_true rfl) rfl
theorem dX1_weigh_17 : decode cX1_weigh 17 = .ok (.iload_n 3, 1) := op_29 kcX1_weigh (Nat.le_of_ble_eq_true rfl) rfl
theorem dX1_weigh_18 : decode cX1_weigh 18 = .ok (.aload_n 0, 1) := op_42 kcX1_weigh (Nat.le_of_ble_eq_true rfl) rfl
theorem dX1_weigh_19 : decode cX1_weigh 19 = .ok (.getfield 37, 3) := op_180 (a := 0) (b := 37) kcX1_weigh (Nat.le_of_ble_eq_true rfl) rfl rfl rfl
theorem dX1_weigh_22 : decode cX1_weigh 22 = .ok (.getfield 75, 3) := op_180 (a := 0) (b := 75) kcX1_weigh (Nat.le_of_ble_eq_true rfl) rfl rfl rfl
theorem dX1_weigh_25 : decode cX1_weigh 25 = .ok (.getfield 79, 3) := op_180 (a := 0) (b := 79) kcX1_weigh (Nat.le_of_ble_eq_true rfl) rfl rfl rfl
theorem dX1_weigh_28 : decode cX1_weigh 28 = .ok (.if_icmp .ge 47, 3) := op_162 (a := 0) (b := 47) kcX1_weigh (Nat.le_of_ble_eq_true rfl) rfl rfl rfl (by decide)
theorem dX1_weigh_31 : decode cX1_weigh 31 = .ok (.iload_n 1, 1) := op_27 kcX1_weigh (Nat.le_of_ble_eq_true rfl) rfl
theorem dX1_weigh_32 : decode cX1_weigh 32 = .ok (.aload_n 0, 1) := op_42 kcX1_weigh (Nat.le_of_ble_eq_true rfl) rfl
theorem dX1_weigh_33 : decode cX1_weigh 33 = .ok (.getfield 15, 3) := op_180 (a := 0) (b := 15) kcX1_weigh (Nat.le_of_ble_eq_true rfl) rfl rfl rfl
theorem dX1_weigh_36 : decode cX1_weigh 36 = .ok (.aload_n 0, 1) := op_42 kcX1_weigh (Nat.le_of_ble_eq_true rfl) rfl
theorem dX1_weigh_37 : decode cX1_weigh 37 = .ok (.getfield 30, 3) := op_180 (a := 0) (b := 30) kcX1_weigh (Nat.le_of_ble_eq_true rfl) rfl rfl rfl
theorem dX1_weigh_40 : decode cX1_weigh 40 = .ok (.bipush 7, 2) := op_16 (a := 7) kcX1_weigh (Nat.le_of_ble_eq_true rfl) rfl rfl (by decide)
theorem dX1_weigh_42 : decode cX1_weigh 42 = .ok (.imul, 1) := op_104 kcX1_weigh (Nat.le_of_ble_eq_true rfl) rfl
theorem dX1_weigh_43 : decode cX1_weigh 43 = .ok (.iload_n 3, 1) := op_29 kcX1_weigh (Nat.le_of_ble_eq_true rfl) rfl
theorem dX1_weigh_44 : decode cX1_weigh 44 = .ok (.iadd, 1) := op_96 kcX1_weigh (Nat.le_of_ble_eq_true rfl) rfl
theorem dX1_weigh_45 : decode cX1_weigh 45 = .ok (.iaload, 1) := op_46 kcX1_weigh (Nat.le_of_ble_eq_true rfl) rfl
theorem dX1_weigh_46 : decode cX1_weigh 46 = .ok (.invokestatic 111, 3) := op_184 (a := 0) (b := 111) kcX1_weigh (Nat.le_of_ble_eq_true rfl) rfl rfl rfl
theorem dX1_weigh_49 : decode cX1_weigh 49 = .ok (.istore_n 1, 1) := op_60 kcX1_weigh (Nat.le_of_ble_eq_true rfl) rfl
theorem dX1_weigh_50 : decode cX1_weigh 50 = .ok (.iload_n 2, 1) := op_28 kcX1_weigh (Nat.le_of_ble_eq_true rfl) rfl
theorem dX1_weigh_51 : decode cX1_weigh 51 = .ok (.aload_n 0, 1) := op_42 kcX1_weigh (Nat.le_of_ble_eq_true rfl) rfl
theorem dX1_weigh_52 : decode cX1_weigh 52 = .ok (.getfield 15, 3) := op_180 (a := 0) (b := 15) kcX1_weigh (Nat.le_of_ble_eq_true rfl) rfl rfl rfl
theorem dX1_weigh_55 : decode cX1_weigh 55 = .ok (.aload_n 0, 1) := op_42 kcX1_weigh (Nat.le_of_ble_eq_true rfl) rfl
theorem dX1_weigh_56 : decode cX1_weigh 56 = .ok (.getfield 30, 3) := op_180 (a := 0) (b := 30) kcX1_weigh (Nat.le_of_ble_eq_true rfl) rfl rfl rfl
theorem dX1_weigh_59 : decode cX1_weigh 59 = .ok (.bipush 7, 2) := op_16 (a := 7) kcX1_weigh (Nat.le_of_ble_eq_true rfl) rfl rfl (by decide)
theorem dX1_weigh_61 : decode cX1_weigh 61 = .ok (.imul, 1) := op_104 kcX1_weigh (Nat.le_of_ble_eq_true rfl) rfl
theorem dX1_weigh_62 : decode cX1_weigh 62 = .ok (.iload_n 3, 1) := op_29 kcX1_weigh (Nat.le_of_ble_eq_true rfl) rfl
theorem dX1_weigh_63 : decode cX1_weigh 63 = .ok (.iadd, 1) := op_96 kcX1_weigh (Nat.le_of_ble_eq_true rfl) rfl
theorem dX1_weigh_64 : decode cX1_weigh 64 = .ok (.iaload, 1) := op_46 kcX1_weigh (Nat.le_of_ble_eq_true rfl) rfl
theorem dX1_weigh_65 : decode cX1_weigh 65 = .ok (.invokestatic 41, 3) := op_184 (a := 0) (b := 41) kcX1_weigh (Nat.le_of_ble_eq_true rfl) rfl rfl rfl
theorem dX1_weigh_68 : decode cX1_weigh 68 = .ok (.istore_n 2, 1) := op_61 kcX1_weigh (Nat.le_of_ble_eq_true rfl) rfl
theorem dX1_weigh_69 : decode cX1_weigh 69 = .ok (.iinc 3 1, 3) := by decide +kernel
theorem dX1_weigh_72 : decode cX1_weigh 72 = .ok (.goto (-55), 3) := op_167 (a := 255) (b := 201) kcX1_weigh (Nat.le_of_ble_eq_true rfl) rfl rfl rfl (by decide)
theorem dX1_weigh_75 : decode cX1_weigh 75 = .ok (.aload_n 0, 1) := op_42 kcX1_weigh (Nat.le_of_ble_eq_true rfl) rfl
theorem dX1_weigh_76 : decode cX1_weigh 76 = .ok (.getfield 34, 3) := op_180 (a := 0) (b := 34) kcX1_weigh (Nat.le_of_ble_eq_true rfl) rfl rfl rfl
theorem dX1_weigh_79 : decode cX1_weigh 79 = .ok (.bipush (-4), 2) := op_16 (a := 252) kcX1_weigh (Nat.le_of_ble_eq_true rfl) rfl rfl (by decide)
theorem dX1_weigh_81 : decode cX1_weigh 81 = .ok (.if_icmp .eq 13, 3) := op_159 (a := 0) (b := 13) kcX1_weigh (Nat.le_of_ble_eq_true rfl) rfl rfl rfl (by decide)
theorem dX1_weigh_84 : decode cX1_weigh 84 = .ok (.iload_n 1, 1) := op_27 kcX1_weigh (Nat.le_of_ble_eq_true rfl) rfl
theorem dX1_weigh_85 : decode cX1_weigh 85 = .ok (.iload_n 2, 1) := op_28 kcX1_weigh (Nat.le_of_ble_eq_true rfl) rfl
theorem dX1_weigh_86 : decode cX1_weigh 86 = .ok (.isub, 1) := op_100 kcX1_weigh (Nat.le_of_ble_eq_true rfl) rfl
theorem dX1_weigh_87 : decode cX1_weigh 87 = .ok (.aload_n 0, 1) := op_42 kcX1_weigh (Nat.le_of_ble_eq_true rfl) rfl
theorem dX1_weigh_88 : decode cX1_weigh 88 = .ok (.getfield 34, 3) := op_180 (a := 0) (b := 34) kcX1_weigh (Nat.le_of_ble_eq_true rfl) rfl rfl rfl
theorem dX1_weigh_91 : decode cX1_weigh 91 = .ok (.if_icmp .ge 27, 3) := op_162 (a := 0) (b := 27) kcX1_weigh (Nat.le_of_ble_eq_true rfl) rfl rfl rfl (by decide)
theorem dX1_weigh_94 : decode cX1_weigh 94 = .ok (.aload_n 0, 1) := op_42 kcX1_weigh (Nat.le_of_ble_eq_true rfl) rfl
theorem dX1_weigh_95 : decode cX1_weigh 95 = .ok (.iload_n 1, 1) := op_27 kcX1_weigh (Nat.le_of_ble_eq_true rfl) rfl
theorem dX1_weigh_96 : decode cX1_weigh 96 = .ok (.iload_n 2, 1) := op_28 kcX1_weigh (Nat.le_of_ble_eq_true rfl) rfl
theorem dX1_weigh_97 : decode cX1_weigh 97 = .ok (.isub, 1) := op_100 kcX1_weigh (Nat.le_of_ble_eq_true rfl) rfl
theorem dX1_weigh_98 : decode cX1_weigh 98 = .ok (.putfield 34, 3) := op_181 (a := 0) (b := 34) kcX1_weigh (Nat.le_of_ble_eq_true rfl) rfl rfl rfl
theorem dX1_weigh_101 : decode cX1_weigh 101 = .ok (.aload_n 0, 1) := op_42 kcX1_weigh (Nat.le_of_ble_eq_true rfl) rfl
theorem dX1_weigh_102 : decode cX1_weigh 102 = .ok (.getfield 24, 3) := op_180 (a := 0) (b := 24) kcX1_weigh (Nat.le_of_ble_eq_true rfl) rfl rfl rfl
theorem dX1_weigh_105 : decode cX1_weigh 105 = .ok (.iconst 0, 1) := op_3 kcX1_weigh (Nat.le_of_ble_eq_true rfl) rfl
theorem dX1_weigh_106 : decode cX1_weigh 106 = .ok (.aload_n 0, 1) := op_42 kcX1_weigh (Nat.le_of_ble_eq_true rfl) rfl
theorem dX1_weigh_107 : decode cX1_weigh 107 = .ok (.getfield 27, 3) := op_180 (a := 0) (b := 27) kcX1_weigh (Nat.le_of_ble_eq_true rfl) rfl rfl rfl
theorem dX1_weigh_110 : decode cX1_weigh 110 = .ok (.iconst 0, 1) := op_3 kcX1_weigh (Nat.le_of_ble_eq_true rfl) rfl
theorem dX1_weigh_111 : decode cX1_weigh 111 = .ok (.aload_n 0, 1) := op_42 kcX1_weigh (Nat.le_of_ble_eq_true rfl) rfl
theorem dX1_weigh_112 : decode cX1_weigh 112 = .ok (.getfield 30, 3) := op_180 (a := 0) (b := 30) kcX1_weigh (Nat.le_of_ble_eq_true rfl) rfl rfl rfl
theorem dX1_weigh_115 : decode cX1_weigh 115 = .ok (.invokestatic 84, 3) := op_184 (a := 0) (b := 84) kcX1_weigh (Nat.le_of_ble_eq_true rfl) rfl rfl rfl
theorem dX1_weigh_118 : decode cX1_weigh 118 = .ok (.return_, 1) := op_177 kcX1_weigh (Nat.le_of_ble_eq_true rfl) rfl
theorem kcX1_nextRow : (cX1_nextRow).data.toList = cbs 0xacfc10d1ffa7ff01844f031b1800b42aac1b4f60042e5c1b1800b42a0f00a27200b44b00b42500b42a60042e1b1800b42a31009b1b3c64041e00b42a 60 := by decide +kernel
theorem dX1_nextRow_0 : decode cX1_nextRow 0 = .ok (.aload_n 0, 1) := op_42 kcX1_nextRow (Nat.le_of_ble_eq_true rfl) rfl
theorem dX1_nextRow_1 : decode cX1_nextRow 1 = .ok (.getfield 30, 3) := op_180 (a := 0) (b := 30) kcX1_nextRow (Nat.le_of_ble_eq_true rfl) rfl rfl rfl
theorem dX1_nextRow_4 : decode cX1_nextRow 4 = .ok (.iconst 1, 1) := op_4 kcX1_nextRow (Nat.le_of_ble_eq_true rfl) rfl
theorem dX1_nextRow_5 : decode cX1_nextRow 5 = .ok (.isub, 1) := op_100 kcX1_nextRow (Nat.le_of_ble_eq_true rfl) rfl
theorem dX1_nextRow_6 : decode cX1_nextRow 6 = .ok (.istore_n 1, 1) := op_60 kcX1_nextRow (Nat.le_of_ble_eq_true rfl) rfl
theorem dX1_nextRow_7 : decode cX1_nextRow 7 = .ok (.iload_n 1, 1) := op_27 kcX1_nextRow (Nat.le_of_ble_eq_true rfl) rfl
theorem dX1_nextRow_8 : decode cX1_nextRow 8 = .ok (.ifCond .lt 49, 3) := op_155 (a := 0) (b := 49) kcX1_nextRow (Nat.le_of_ble_eq_true rfl) rfl rfl rfl (by decide)
theorem dX1_nextRow_11 : decode cX1_nextRow 11 = .ok (.aload_n 0, 1) := op_42 kcX1_nextRow (Nat.le_of_ble_eq_true rfl) rfl
theorem dX1_nextRow_12 : decode cX1_nextRow 12 = .ok (.getfield 24, 3) := op_180 (a := 0) (b := 24) kcX1_nextRow (Nat.le_of_ble_eq_true rfl) rfl rfl rfl
theorem dX1_nextRow_15 : decode cX1_nextRow 15 = .ok (.iload_n 1, 1) := op_27 kcX1_nextRow (Nat.le_of_ble_eq_true rfl) rfl
theorem dX1_nextRow_16 : decode cX1_nextRow 16 = .ok (.iaload, 1) := op_46 kcX1_nextRow (Nat.le_of_ble_eq_true rfl) rfl
theorem dX1_nextRow_17 : decode cX1_nextRow 17 = .ok (.iconst 1, 1) := op_4 kcX1_nextRow (Nat.le_of_ble_eq_true rfl) rfl
theorem dX1_nextRow_18 : decode cX1_nextRow 18 = .ok (.iadd, 1) := op_96 kcX1_nextRow (Nat.le_of_ble_eq_true rfl) rfl
theorem dX1_nextRow_19 : decode cX1_nextRow 19 = .ok (.aload_n 0, 1) := op_42 kcX1_nextRow (Nat.le_of_ble_eq_true rfl) rfl
theorem dX1_nextRow_20 : decode cX1_nextRow 20 = .ok (.getfield 37, 3) := op_180 (a := 0) (b := 37) kcX1_nextRow (Nat.le_of_ble_eq_true rfl) rfl rfl rfl
theorem dX1_nextRow_23 : decode cX1_nextRow 23 = .ok (.getfield 75, 3) := op_180 (a := 0) (b := 75) kcX1_nextRow (Nat.le_of_ble_eq_true rfl) rfl rfl rfl
theorem dX1_nextRow_26 : decode cX1_nextRow 26 = .ok (.getfield 114, 3) := op_180 (a := 0) (b := 114) kcX1_nextRow (Nat.le_of_ble_eq_true rfl) rfl rfl rfl
theorem dX1_nextRow_29 : decode cX1_nextRow 29 = .ok (.if_icmp .ge 15, 3) := op_162 (a := 0) (b := 15) kcX1_nextRow (Nat.le_of_ble_eq_true rfl) rfl rfl rfl (by decide)
theorem dX1_nextRow_32 : decode cX1_nextRow 32 = .ok (.aload_n 0, 1) := op_42 kcX1_nextRow (Nat.le_of_ble_eq_true rfl) rfl
theorem dX1_nextRow_33 : decode cX1_nextRow 33 = .ok (.getfield 24, 3) := op_180 (a := 0) (b := 24) kcX1_nextRow (Nat.le_of_ble_eq_true rfl) rfl rfl rfl
theorem dX1_nextRow_36 : decode cX1_nextRow 36 = .ok (.iload_n 1, 1) := op_27 kcX1_nextRow (Nat.le_of_ble_eq_true rfl) rfl
theorem dX1_nextRow_37 : decode cX1_nextRow 37 = .ok (.dup2, 1) := op_92 kcX1_nextRow (Nat.le_of_ble_eq_true rfl) rfl
theorem dX1_nextRow_38 : decode cX1_nextRow 38 = .ok (.iaload, 1) := op_46 kcX1_nextRow (Nat.le_of_ble_eq_true rfl) rfl
theorem dX1_nextRow_39 : decode cX1_nextRow 39 = .ok (.iconst 1, 1) := op_4 kcX1_nextRow (Nat.le_of_ble_eq_true rfl) rfl
theorem dX1_nextRow_40 : decode cX1_nextRow 40 = .ok (.iadd, 1) := op_96 kcX1_nextRow (Nat.le_of_ble_eq_true rfl) rfl
theorem dX1_nextRow_41 : decode cX1_nextRow 41 = .ok (.iastore, 1) := op_79 kcX1_nextRow (Nat.le_of_ble_eq_true rfl) rfl
theorem dX1_nextRow_42 : decode cX1_nextRow 42 = .ok (.iload_n 1, 1) := op_27 kcX1_nextRow (Nat.le_of_ble_eq_true rfl) rfl
theorem dX1_nextRow_43 : decode cX1_nextRow 43 = .ok (.ireturn, 1) := op_172 kcX1_nextRow (Nat.le_of_ble_eq_true rfl) rfl
theorem dX1_nextRow_44 : decode cX1_nextRow 44 = .ok (.aload_n 0, 1) := op_42 kcX1_nextRow (Nat.le_of_ble_eq_true rfl) rfl
theorem dX1_nextRow_45 : decode cX1_nextRow 45 = .ok (.getfield 24, 3) := op_180 (a := 0) (b := 24) kcX1_nextRow (Nat.le_of_ble_eq_true rfl) rfl rfl rfl
theorem dX1_nextRow_48 : decode cX1_nextRow 48 = .ok (.iload_n 1, 1) := op_27 kcX1_nextRow (Nat.le_of_ble_eq_true rfl) rfl
theorem dX1_nextRow_49 : decode cX1_nextRow 49 = .ok (.iconst 0, 1) := op_3 kcX1_nextRow (Nat.le_of_ble_eq_true rfl) rfl
theorem dX1_nextRow_50 : decode cX1_nextRow 50 = .ok (.iastore, 1) := op_79 kcX1_nextRow (Nat.le_of_ble_eq_true rfl) rfl
theorem dX1_nextRow_51 : decode cX1_nextRow 51 = .ok (.iinc 1 (-1), 3) := by decide +kernel
theorem dX1_nextRow_54 : decode cX1_nextRow 54 = .ok (.goto (-47), 3) := op_167 (a := 255) (b := 209) kcX1_nextRow (Nat.le_of_ble_eq_true rfl) rfl rfl rfl (by decide)
theorem dX1_nextRow_57 : decode cX1_nextRow 57 = .ok (.bipush (-4), 2) := op_16 (a := 252) kcX1_nextRow (Nat.le_of_ble_eq_true rfl) rfl rfl (by decide)
theorem dX1_nextRow_59 : decode cX1_nextRow 59 = .ok (.ireturn, 1) := op_172 kcX1_nextRow (Nat.le_of_ble_eq_true rfl) rfl
theorem kcX2_init : (cX2_init).data.toList = cbs 0xb11900b52c2a1500b52b2a1200b50abc07102a0f00b50abc31102a0900b50abc31102a0300b72a 39 := by decide +kernel
theorem dX2_init_0 : decode cX2_init 0 = .ok (.aload_n 0, 1) := op_42 kcX2_init (Nat.le_of_ble_eq_true rfl) rfl
theorem dX2_init_1 : decode cX2_init 1 = .ok (.invokespecial 3, 3) := op_183 (a := 0) (b := 3) kcX2_init (Nat.le_of_ble_eq_true rfl) rfl rfl rfl
theorem dX2_init_4 : decode cX2_init 4 = .ok (.aload_n 0, 1) := op_42 kcX2_init (Nat.le_of_ble_eq_true rfl) rfl
theorem dX2_init_5 : decode cX2_init 5 = .ok (.bipush 49, 2) := op_16 (a := 49) kcX2_init (Nat.le_of_ble_eq_true rfl) rfl rfl (by decide)
theorem dX2_init_7 : decode cX2_init 7 = .ok (.newarray .int, 2) := by decide +kernel
theorem dX2_init_9 : decode cX2_init 9 = .ok (.putfield 9, 3) := op_181 (a := 0) (b := 9) kcX2_init (Nat.le_of_ble_eq_true rfl) rfl rfl rfl
theorem dX2_init_12 : decode cX2_init 12 = .ok (.aload_n 0, 1) := op_42 kcX2_init (Nat.le_of_ble_eq_true rfl) rfl
theorem dX2_init_13 : decode cX2_init 13 = .ok (.bipush 49, 2) := op_16 (a := 49) kcX2_init (Nat.le_of_ble_eq_true rfl) rfl rfl (by decide)
theorem dX2_init_15 : decode cX2_init 15 = .ok (.newarray .int, 2) := by decide +kernel
theorem dX2_init_17 : decode cX2_init 17 = .ok (.putfield 15, 3) := op_181 (a := 0) (b := 15) kcX2_init (Nat.le_of_ble_eq_true rfl) rfl rfl rfl
theorem dX2_init_20 : decode cX2_init 20 = .ok (.aload_n 0, 1) := op_42 kcX2_init (Nat.le_of_ble_eq_true rfl) rfl
theorem dX2_init_21 : decode cX2_init 21 = .ok (.bipush 7, 2) := op_16 (a := 7) kcX2_init (Nat.le_of_ble_eq_true rfl) rfl rfl (by decide)
theorem dX2_init_23 : decode cX2_init 23 = .ok (.newarray .int, 2) := by decide +kernel
theorem dX2_init_25 : decode cX2_init 25 = .ok (.putfield 18, 3) := op_181 (a := 0) (b := 18) kcX2_init (Nat.le_of_ble_eq_true rfl) rfl rfl rfl
theorem dX2_init_28 : decode cX2_init 28 = .ok (.aload_n 0, 1) := op_42 kcX2_init (Nat.le_of_ble_eq_true rfl) rfl
theorem dX2_init_29 : decode cX2_init 29 = .ok (.aload_n 1, 1) := op_43 kcX2_init (Nat.le_of_ble_eq_true rfl) rfl
theorem dX2_init_30 : decode cX2_init 30 = .ok (.putfield 21, 3) := op_181 (a := 0) (b := 21) kcX2_init (Nat.le_of_ble_eq_true rfl) rfl rfl rfl
theorem dX2_init_33 : decode cX2_init 33 = .ok (.aload_n 0, 1) := op_42 kcX2_init (Nat.le_of_ble_eq_true rfl) rfl
theorem dX2_init_34 : decode cX2_init 34 = .ok (.aload_n 2, 1) := op_44 kcX2_init (Nat.le_of_ble_eq_true rfl) rfl
theorem dX2_init_35 : decode cX2_init 35 = .ok (.putfield 25, 3) := op_181 (a := 0) (b := 25) kcX2_init (Nat.le_of_ble_eq_true rfl) rfl rfl rfl
theorem dX2_init_38 : decode cX2_init 38 = .ok (.return_, 1) := op_177 kcX2_init (Nat.le_of_ble_eq_true rfl) rfl
set_option maxRecDepth 20000 in
theorem gw_wsX6_inRing : (wsX6_inRing).all goodWord = true := by decide +kernel
set_option maxRecDepth 20000 in
theorem ggX2_serve_X6_inRing : GoodIn wsX2_serve wsX6_inRing := goodIn_r _ [10, 11, 23, 24, 25, 26, 27, 28, 29] rfl gw_wsX6_inRing
set_option maxRecDepth 20000 in
theorem gX2_serve_X6_inRing : GoodIn wsX2_serve (wsV RX2 35 RX6 yX6_inRing wsX6_inRing) := goodIn_app (goodIn_of _ (by decide +kernel)) ggX2_serve_X6_inRing
set_option maxRecDepth 20000 in
theorem gw_wsX8_isFriend : (wsX8_isFriend).all goodWord = true := by decide +kernel
set_option maxRecDepth 20000 in
theorem ggX2_serve_X8_isFriend : GoodIn wsX2_serve wsX8_isFriend := goodIn_r _ [16, 17, 30, 31, 32, 33, 34, 35, 36, 37, 38] rfl gw_wsX8_isFriend
set_option maxRecDepth 20000 in
theorem gX2_serve_X8_isFriend : GoodIn wsX2_serve (wsV RX2 39 RX8 yX8_isFriend wsX8_isFriend) := goodIn_app (goodIn_of _ (by decide +kernel)) ggX2_serve_X8_isFriend
theorem kcX2_serve : (cX2_serve).data.toList = cbs 0xb1a6ffa70104844f05156006156807101b0f00b42a4f06156005156807101b0900b42a01028406361c0900a7ff038406361d0c00992700b605151b1900b42a10009f1b051505362300b66004151b1500b42a5400a21d00b41500b42a04150436033e64041d00b41500b42a3d03 109 := by decide +kernel
theorem dX2_serve_0 : decode cX2_serve 0 = .ok (.iconst 0, 1) := op_3 kcX2_serve (Nat.le_of_ble_eq_true rfl) rfl
theorem dX2_serve_1 : decode cX2_serve 1 = .ok (.istore_n 2, 1) := op_61 kcX2_serve (Nat.le_of_ble_eq_true rfl) rfl
theorem dX2_serve_2 : decode cX2_serve 2 = .ok (.aload_n 0, 1) := op_42 kcX2_serve (Nat.le_of_ble_eq_true rfl) rfl
theorem dX2_serve_3 : decode cX2_serve 3 = .ok (.getfield 21, 3) := op_180 (a := 0) (b := 21) kcX2_serve (Nat.le_of_ble_eq_true rfl) rfl rfl rfl
theorem dX2_serve_6 : decode cX2_serve 6 = .ok (.getfield 29, 3) := op_180 (a := 0) (b := 29) kcX2_serve (Nat.le_of_ble_eq_true rfl) rfl rfl rfl
theorem dX2_serve_9 : decode cX2_serve 9 = .ok (.iconst 1, 1) := op_4 kcX2_serve (Nat.le_of_ble_eq_true rfl) rfl
theorem dX2_serve_10 : decode cX2_serve 10 = .ok (.isub, 1) := op_100 kcX2_serve (Nat.le_of_ble_eq_true rfl) rfl
theorem dX2_serve_11 : decode cX2_serve 11 = .ok (.istore_n 3, 1) := op_62 kcX2_serve (Nat.le_of_ble_eq_true rfl) rfl
theorem dX2_serve_12 : decode cX2_serve 12 = .ok (.iconst 0, 1) := op_3 kcX2_serve (Nat.le_of_ble_eq_true rfl) rfl
theorem dX2_serve_13 : decode cX2_serve 13 = .ok (.istore 4, 2) := op_54 (a := 4) kcX2_serve (Nat.le_of_ble_eq_true rfl) rfl rfl
theorem dX2_serve_15 : decode cX2_serve 15 = .ok (.iload 4, 2) := op_21 (a := 4) kcX2_serve (Nat.le_of_ble_eq_true rfl) rfl rfl
theorem dX2_serve_17 : decode cX2_serve 17 = .ok (.aload_n 0, 1) := op_42 kcX2_serve (Nat.le_of_ble_eq_true rfl) rfl
theorem dX2_serve_18 : decode cX2_serve 18 = .ok (.getfield 21, 3) := op_180 (a := 0) (b := 21) kcX2_serve (Nat.le_of_ble_eq_true rfl) rfl rfl rfl
theorem dX2_serve_21 : decode cX2_serve 21 = .ok (.getfield 29, 3) := op_180 (a := 0) (b := 29) kcX2_serve (Nat.le_of_ble_eq_true rfl) rfl rfl rfl
theorem dX2_serve_24 : decode cX2_serve 24 = .ok (.if_icmp .ge 84, 3) := op_162 (a := 0) (b := 84) kcX2_serve (Nat.le_of_ble_eq_true rfl) rfl rfl rfl (by decide)
theorem dX2_serve_27 : decode cX2_serve 27 = .ok (.aload_n 0, 1) := op_42 kcX2_serve (Nat.le_of_ble_eq_true rfl) rfl
theorem dX2_serve_28 : decode cX2_serve 28 = .ok (.getfield 21, 3) := op_180 (a := 0) (b := 21) kcX2_serve (Nat.le_of_ble_eq_true rfl) rfl rfl rfl
theorem dX2_serve_31 : decode cX2_serve 31 = .ok (.iload_n 1, 1) := op_27 kcX2_serve (Nat.le_of_ble_eq_true rfl) rfl
theorem dX2_serve_32 : decode cX2_serve 32 = .ok (.iload 4, 2) := op_21 (a := 4) kcX2_serve (Nat.le_of_ble_eq_true rfl) rfl rfl
theorem dX2_serve_34 : decode cX2_serve 34 = .ok (.iadd, 1) := op_96 kcX2_serve (Nat.le_of_ble_eq_true rfl) rfl
theorem dX2_serve_35 : decode cX2_serve 35 = .ok (.invokevirtual 35, 3) := op_182 (a := 0) (b := 35) kcX2_serve (Nat.le_of_ble_eq_true rfl) rfl rfl rfl
theorem dX2_serve_38 : decode cX2_serve 38 = .ok (.istore 5, 2) := op_54 (a := 5) kcX2_serve (Nat.le_of_ble_eq_true rfl) rfl rfl
theorem dX2_serve_40 : decode cX2_serve 40 = .ok (.iload 5, 2) := op_21 (a := 5) kcX2_serve (Nat.le_of_ble_eq_true rfl) rfl rfl
theorem dX2_serve_42 : decode cX2_serve 42 = .ok (.iload_n 1, 1) := op_27 kcX2_serve (Nat.le_of_ble_eq_true rfl) rfl
theorem dX2_serve_43 : decode cX2_serve 43 = .ok (.if_icmp .eq 16, 3) := op_159 (a := 0) (b := 16) kcX2_serve (Nat.le_of_ble_eq_true rfl) rfl rfl rfl (by decide)
theorem dX2_serve_46 : decode cX2_serve 46 = .ok (.aload_n 0, 1) := op_42 kcX2_serve (Nat.le_of_ble_eq_true rfl) rfl
theorem dX2_serve_47 : decode cX2_serve 47 = .ok (.getfield 25, 3) := op_180 (a := 0) (b := 25) kcX2_serve (Nat.le_of_ble_eq_true rfl) rfl rfl rfl
theorem dX2_serve_50 : decode cX2_serve 50 = .ok (.iload_n 1, 1) := op_27 kcX2_serve (Nat.le_of_ble_eq_true rfl) rfl
theorem dX2_serve_51 : decode cX2_serve 51 = .ok (.iload 5, 2) := op_21 (a := 5) kcX2_serve (Nat.le_of_ble_eq_true rfl) rfl rfl
theorem dX2_serve_53 : decode cX2_serve 53 = .ok (.invokevirtual 39, 3) := op_182 (a := 0) (b := 39) kcX2_serve (Nat.le_of_ble_eq_true rfl) rfl rfl rfl
theorem dX2_serve_56 : decode cX2_serve 56 = .ok (.ifCond .eq 12, 3) := op_153 (a := 0) (b := 12) kcX2_serve (Nat.le_of_ble_eq_true rfl) rfl rfl rfl (by decide)
theorem dX2_serve_59 : decode cX2_serve 59 = .ok (.iload_n 3, 1) := op_29 kcX2_serve (Nat.le_of_ble_eq_true rfl) rfl
theorem dX2_serve_60 : decode cX2_serve 60 = .ok (.istore 6, 2) := op_54 (a := 6) kcX2_serve (Nat.le_of_ble_eq_true rfl) rfl rfl
theorem dX2_serve_62 : decode cX2_serve 62 = .ok (.iinc 3 (-1), 3) := by decide +kernel
theorem dX2_serve_65 : decode cX2_serve 65 = .ok (.goto 9, 3) := op_167 (a := 0) (b := 9) kcX2_serve (Nat.le_of_ble_eq_true rfl) rfl rfl rfl (by decide)
theorem dX2_serve_68 : decode cX2_serve 68 = .ok (.iload_n 2, 1) := op_28 kcX2_serve (Nat.le_of_ble_eq_true rfl) rfl
theorem dX2_serve_69 : decode cX2_serve 69 = .ok (.istore 6, 2) := op_54 (a := 6) kcX2_serve (Nat.le_of_ble_eq_true rfl) rfl rfl
theorem dX2_serve_71 : decode cX2_serve 71 = .ok (.iinc 2 1, 3) := by decide +kernel
theorem dX2_serve_74 : decode cX2_serve 74 = .ok (.aload_n 0, 1) := op_42 kcX2_serve (Nat.le_of_ble_eq_true rfl) rfl
theorem dX2_serve_75 : decode cX2_serve 75 = .ok (.getfield 9, 3) := op_180 (a := 0) (b := 9) kcX2_serve (Nat.le_of_ble_eq_true rfl) rfl rfl rfl
theorem dX2_serve_78 : decode cX2_serve 78 = .ok (.iload_n 1, 1) := op_27 kcX2_serve (Nat.le_of_ble_eq_true rfl) rfl
theorem dX2_serve_79 : decode cX2_serve 79 = .ok (.bipush 7, 2) := op_16 (a := 7) kcX2_serve (Nat.le_of_ble_eq_true rfl) rfl rfl (by decide)
theorem dX2_serve_81 : decode cX2_serve 81 = .ok (.imul, 1) := op_104 kcX2_serve (Nat.le_of_ble_eq_true rfl) rfl
theorem dX2_serve_82 : decode cX2_serve 82 = .ok (.iload 5, 2) := op_21 (a := 5) kcX2_serve (Nat.le_of_ble_eq_true rfl) rfl rfl
theorem dX2_serve_84 : decode cX2_serve 84 = .ok (.iadd, 1) := op_96 kcX2_serve (Nat.le_of_ble_eq_true rfl) rfl
theorem dX2_serve_85 : decode cX2_serve 85 = .ok (.iload 6, 2) := op_21 (a := 6) kcX2_serve (Nat.le_of_ble_eq_true rfl) rfl rfl
theorem dX2_serve_87 : decode cX2_serve 87 = .ok (.iastore, 1) := op_79 kcX2_serve (Nat.le_of_ble_eq_true rfl) rfl
theorem dX2_serve_88 : decode cX2_serve 88 = .ok (.aload_n 0, 1) := op_42 kcX2_serve (Nat.le_of_ble_eq_true rfl) rfl
theorem dX2_serve_89 : decode cX2_serve 89 = .ok (.getfield 15, 3) := op_180 (a := 0) (b := 15) kcX2_serve (Nat.le_of_ble_eq_true rfl) rfl rfl rfl
theorem dX2_serve_92 : decode cX2_serve 92 = .ok (.iload_n 1, 1) := op_27 kcX2_serve (Nat.le_of_ble_eq_true rfl) rfl
theorem dX2_serve_93 : decode cX2_serve 93 = .ok (.bipush 7, 2) := op_16 (a := 7) kcX2_serve (Nat.le_of_ble_eq_true rfl) rfl rfl (by decide)
theorem dX2_serve_95 : decode cX2_serve 95 = .ok (.imul, 1) := op_104 kcX2_serve (Nat.le_of_ble_eq_true rfl) rfl
theorem dX2_serve_96 : decode cX2_serve 96 = .ok (.iload 6, 2) := op_21 (a := 6) kcX2_serve (Nat.le_of_ble_eq_true rfl) rfl rfl
theorem dX2_serve_98 : decode cX2_serve 98 = .ok (.iadd, 1) := op_96 kcX2_serve (Nat.le_of_ble_eq_true rfl) rfl
theorem dX2_serve_99 : decode cX2_serve 99 = .ok (.iload 5, 2) := op_21 (a := 5) kcX2_serve (Nat.le_of_ble_eq_true rfl) rfl rfl
theorem dX2_serve_101 : decode cX2_serve 101 = .ok (.iastore, 1) := op_79 kcX2_serve (Nat.le_of_ble_eq_true rfl) rfl
theorem dX2_serve_102 : decode cX2_serve 102 = .ok (.iinc 4 1, 3) := by decide +kernel
theorem dX2_serve_105 : decode cX2_serve 105 = .ok (.goto (-90), 3) := op_167 (a := 255) (b := 166) kcX2_serve (Nat.le_of_ble_eq_true rfl) rfl rfl rfl (by decide)
theorem dX2_serve_108 : decode cX2_serve 108 = .ok (.return_, 1) := op_177 kcX2_serve (Nat.le_of_ble_eq_true rfl) rfl
set_option maxRecDepth 20000 in
theorem gw_wsX2_serve : (wsX2_serve).all goodWord = true := by decide +kernel
set_option maxRecDepth 20000 in
theorem ggX2_serveAllKings_X2_serve : GoodIn wsX2_serveAllKings wsX2_serve := goodIn_r _ [7, 1, 2, 8, 9, 10, 11, 12, 13, 14, 15, 16, 17, 18, 19, 20, 21, 22, 23, 24, 25, 26, 27, 28, 29, 30, 31, 32, 33, 34, 35, 36, 37, 38, 39, 40, 41, 42, 43] rfl gw_wsX2_serve
set_option maxRecDepth 20000 in
theorem gX2_serveAllKings_X2_serve : GoodIn wsX2_serveAllKings (wsV RX2 45 RX2 yX2_serve wsX2_serve) := goodIn_app (goodIn_of _ (by decide +kernel)) ggX2_serveAllKings_X2_serve
theorem kcX2_serveAllKings : (cX2_serveAllKings).data.toList = cbs 0xb1edffa70101842d00b61b2a0e00a21d00b41500b42a1b3c03 25 := by decide +kernel
theorem dX2_serveAllKings_0 : decode cX2_serveAllKings 0 = .ok (.iconst 0, 1) := op_3 kcX2_serveAllKings (Nat.le_of_ble_eq_true rfl) rfl
theorem dX2_serveAllKings_1 : decode cX2_serveAllKings 1 = .ok (.istore_n 1, 1) := op_60 kcX2_serveAllKings (Nat.le_of_ble_eq_true rfl) rfl
theorem dX2_serveAllKings_2 : decode cX2_serveAllKings 2 = .ok (.iload_n 1, 1) := op_27 kcX2_serveAllKings (Nat.le_of_ble_eq_true rfl) rfl
theorem dX2_serveAllKings_3 : decode cX2_serveAllKings 3 = .ok (.aload_n 0, 1) := op_42 kcX2_serveAllKings (Nat.le_of_ble_eq_true rfl) rfl
theorem dX2_serveAllKings_4 : decode cX2_serveAllKings 4 = .ok (.getfield 21, 3) := op_180 (a := 0) (b := 21) kcX2_serveAllKings (Nat.le_of_ble_eq_true rfl) rfl rfl rfl
theorem dX2_serveAllKings_7 : decode cX2_serveAllKings 7 = .ok (.getfield 29, 3) := op_180 (a := 0) (b := 29) kcX2_serveAllKings (Nat.le_of_ble_eq_true rfl) rfl rfl rfl
theorem dX2_serveAllKings_10 : decode cX2_serveAllKings 10 = .ok (.if_icmp .ge 14, 3) := op_162 (a := 0) (b := 14) kcX2_serveAllKings (Nat.le_of_ble_eq_true rfl) rfl rfl rfl (by decide)
theorem dX2_serveAllKings_13 : decode cX2_serveAllKings 13 = .ok (.aload_n 0, 1) := op_42 kcX2_serveAllKings (Nat.le_of_ble_eq_true rfl) rfl
theorem dX2_serveAllKings_14 : decode cX2_serveAllKings 14 = .ok (.iload_n 1, 1) := op_27 kcX2_serveAllKings (Nat.le_of_ble_eq_true rfl) rfl
theorem dX2_serveAllKings_15 : decode cX2_serveAllKings 15 = .ok (.invokevirtual 45, 3) := op_182 (a := 0) (b := 45) kcX2_serveAllKings (Nat.le_of_ble_eq_true rfl) rfl rfl rfl
theorem dX2_serveAllKings_18 : decode cX2_serveAllKings 18 = .ok (.iinc 1 1, 3) := by decide +kernel
theorem dX2_serveAllKings_21 : decode cX2_serveAllKings 21 = .ok (.goto (-19), 3) := op_167 (a := 255) (b := 237) kcX2_serveAllKings (Nat.le_of_ble_eq_true rfl) rfl rfl rfl (by decide)
theorem dX2_serveAllKings_24 : decode cX2_serveAllKings 24 = .ok (.return_, 1) := op_177 kcX2_serveAllKings (Nat.le_of_ble_eq_true rfl) rfl
theorem kcX2_placeOf : (cX2_placeOf).data.toList = cbs 0xac2e601c6807101b0900b42a 12 := by decide +kernel
theorem dX2_placeOf_0 : decode cX2_placeOf 0 = .ok (.aload_n 0, 1) := op_42 kcX2_placeOf (Nat.le_of_ble_eq_true rfl) rfl
theorem dX2_placeOf_1 : decode cX2_placeOf 1 = .ok (.getfield 9, 3) := op_180 (a := 0) (b := 9) kcX2_placeOf (Nat.le_of_ble_eq_true rfl) rfl rfl rfl
theorem dX2_placeOf_4 : decode cX2_placeOf 4 = .ok (.iload_n 1, 1) := op_27 kcX2_placeOf (Nat.le_of_ble_eq_true rfl) rfl
theorem dX2_placeOf_5 : decode cX2_placeOf 5 = .ok (.bipush 7, 2) := op_16 (a := 7) kcX2_placeOf (Nat.le_of_ble_eq_true rfl) rfl rfl (by decide)
theorem dX2_placeOf_7 : decode cX2_placeOf 7 = .ok (.imul, 1) := op_104 kcX2_placeOf (Nat.le_of_ble_eq_true rfl) rfl
theorem dX2_placeOf_8 : decode cX2_placeOf 8 = .ok (.iload_n 2, 1) := op_28 kcX2_placeOf (Nat.le_of_ble_eq_true rfl) rfl
theorem dX2_placeOf_9 : decode cX2_placeOf 9 = .ok (.iadd, 1) := op_96 kcX2_placeOf (Nat.le_of_ble_eq_true rfl) rfl
theorem dX2_placeOf_10 : decode cX2_placeOf 10 = .ok (.iaload, 1) := op_46 kcX2_placeOf (Nat.le_of_ble_eq_true rfl) rfl
theorem dX2_placeOf_11 : decode cX2_placeOf 11 = .ok (.ireturn, 1) := op_172 kcX2_placeOf (Nat.le_of_ble_eq_true rfl) rfl
theorem kcX2_holderOf : (cX2_holderOf).data.toList = cbs 0xac2e601c6807101b0f00b42a 12 := by decide +kernel
theorem dX2_holderOf_0 : decode cX2_holderOf 0 = .ok (.aload_n 0, 1) := op_42 kcX2_holderOf (Nat.le_of_ble_eq_true rfl) rfl
theorem dX2_holderOf_1 : decode cX2_holderOf 1 = .ok (.getfield 15, 3) := op_180 (a := 0) (b := 15) kcX2_holderOf (Nat.le_of_ble_eq_true rfl) rfl rfl rfl
theorem dX2_holderOf_4 : decode cX2_holderOf 4 = .ok (.iload_n 1, 1) := op_27 kcX2_holderOf (Nat.le_of_ble_eq_true rfl) rfl
theorem dX2_holderOf_5 : decode cX2_holderOf 5 = .ok (.bipush 7, 2) := op_16 (a := 7) kcX2_holderOf (Nat.le_of_ble_eq_true rfl) rfl rfl (by decide)
theorem dX2_holderOf_7 : decode cX2_holderOf 7 = .ok (.imul, 1) := op_104 kcX2_holderOf (Nat.le_of_ble_eq_true rfl) rfl
theorem dX2_holderOf_8 : decode cX2_holderOf 8 = .ok (.iload_n 2, 1) := op_28 kcX2_holderOf (Nat.le_of_ble_eq_true rfl) rfl
theorem dX2_holderOf_9 : decode cX2_holderOf 9 = .ok (.iadd, 1) := op_96 kcX2_holderOf (Nat.le_of_ble_eq_true rfl) rfl
theorem dX2_holderOf_10 : decode cX2_holderOf 10 = .ok (.iaload, 1) := op_46 kcX2_holderOf (Nat.le_of_ble_eq_true rfl) rfl
theorem dX2_holderOf_11 : decode cX2_holderOf 11 = .ok (.ireturn, 1) := op_172 kcX2_holderOf (Nat.le_of_ble_eq_true rfl) rfl
set_option maxRecDepth 20000 in
theorem gw_wsX6_stirInto : (wsX6_stirInto).all goodWord = true := by decide +kernel
set_option maxRecDepth 20000 in
theorem ggX2_stirPot_X6_stirInto : GoodIn wsX2_stirPot wsX6_stirInto := goodIn_r _ [9, 10, 11, 12, 13, 8, 14, 15, 30, 31, 32, 33, 34, 35, 36] rfl gw_wsX6_stirInto
set_option maxRecDepth 20000 in
theorem gX2_stirPot_X6_stirInto : GoodIn wsX2_stirPot (wsV RX2 52 RX6 yX6_stirInto wsX6_stirInto) := goodIn_app (goodIn_of _ (by decide +kernel)) ggX2_stirPot_X6_stirInto
theorem kcX2_stirPot : (cX2_stirPot).data.toList = cbs 0xb13400b61200b42a3100b41900b42a1b1500b42a 20 := by decide +kernel
theorem dX2_stirPot_0 : decode cX2_stirPot 0 = .ok (.aload_n 0, 1) := op_42 kcX2_stirPot (Nat.le_of_ble_eq_true rfl) rfl
theorem dX2_stirPot_1 : decode cX2_stirPot 1 = .ok (.getfield 21, 3) := op_180 (a := 0) (b := 21) kcX2_stirPot (Nat.le_of_ble_eq_true rfl) rfl rfl rfl
theorem dX2_stirPot_4 : decode cX2_stirPot 4 = .ok (.iload_n 1, 1) := op_27 kcX2_stirPot (Nat.le_of_ble_eq_true rfl) rfl
theorem dX2_stirPot_5 : decode cX2_stirPot 5 = .ok (.aload_n 0, 1) := op_42 kcX2_stirPot (Nat.le_of_ble_eq_true rfl) rfl
theorem dX2_stirPot_6 : decode cX2_stirPot 6 = .ok (.getfield 25, 3) := op_180 (a := 0) (b := 25) kcX2_stirPot (Nat.le_of_ble_eq_true rfl) rfl rfl rfl
theorem dX2_stirPot_9 : decode cX2_stirPot 9 = .ok (.getfield 49, 3) := op_180 (a := 0) (b := 49) kcX2_stirPot (Nat.le_of_ble_eq_true rfl) rfl rfl rfl
theorem dX2_stirPot_12 : decode cX2_stirPot 12 = .ok (.aload_n 0, 1) := op_42 kcX2_stirPot (Nat.le_of_ble_eq_true rfl) rfl
theorem dX2_stirPot_13 : decode cX2_stirPot 13 = .ok (.getfield 18, 3) := op_180 (a := 0) (b := 18) kcX2_stirPot (Nat.le_of_ble_eq_true rfl) rfl rfl rfl
theorem dX2_stirPot_16 : decode cX2_stirPot 16 = .ok (.invokevirtual 52, 3) := op_182 (a := 0) (b := 52) kcX2_stirPot (Nat.le_of_ble_eq_true rfl) rfl rfl rfl
theorem dX2_stirPot_19 : decode cX2_stirPot 19 = .ok (.return_, 1) := op_177 kcX2_stirPot (Nat.le_of_ble_eq_true rfl) rfl
set_option maxRecDepth 20000 in
theorem ggX2_bowlOf_X2_placeOf : GoodIn wsX2_bowlOf wsX2_placeOf := goodIn_r _ [6, 7, 8, 9, 10, 11, 12] rfl gw_wsX2_placeOf
set_option maxRecDepth 20000 in
theorem gX2_bowlOf_X2_placeOf : GoodIn wsX2_bowlOf (wsV RX2 56 RX2 yX2_placeOf wsX2_placeOf) := goodIn_app (goodIn_of _ (by decide +kernel)) ggX2_bowlOf_X2_placeOf
theorem kcX2_bowlOf : (cX2_bowlOf).data.toList = cbs 0xac2e3800b61c1b2a1200b42a 12 := by decide +kernel
theorem dX2_bowlOf_0 : decode cX2_bowlOf 0 = .ok (.aload_n 0, 1) := op_42 kcX2_bowlOf (Nat.le_of_ble_eq_true rfl) rfl
theorem dX2_bowlOf_1 : decode cX2_bowlOf 1 = .ok (.getfield 18, 3) := op_180 (a := 0) (b := 18) kcX2_bowlOf (Nat.le_of_ble_eq_true rfl) rfl rfl rfl
theorem dX2_bowlOf_4 : decode cX2_bowlOf 4 = .ok (.aload_n 0, 1) := op_42 kcX2_bowlOf (Nat.le_of_ble_eq_true rfl) rfl
theorem dX2_bowlOf_5 : decode cX2_bowlOf 5 = .ok (.iload_n 1, 1) := op_27 kcX2_bowlOf (Nat.le_of_ble_eq_true rfl) rfl
theorem dX2_bowlOf_6 : decode cX2_bowlOf 6 = .ok (.iload_n 2, 1) := op_28 kcX2_bowlOf (Nat.le_of_ble_eq_true rfl) rfl
theorem dX2_bowlOf_7 : decode cX2_bowlOf 7 = .ok (.invokevirtual 56, 3) := op_182 (a := 0) (b := 56) kcX2_bowlOf (Nat.le_of_ble_eq_true rfl) rfl rfl rfl
theorem dX2_bowlOf_10 : decode cX2_bowlOf 10 = .ok (.iaload, 1) := op_46 kcX2_bowlOf (Nat.le_of_ble_eq_true rfl) rfl
theorem dX2_bowlOf_11 : decode cX2_bowlOf 11 = .ok (.ireturn, 1) := op_172 kcX2_bowlOf (Nat.le_of_ble_eq_true rfl) rfl
set_option maxRecDepth 20000 in
theorem ggX2_passDay_X2_serve : GoodIn wsX2_passDay wsX2_serve := goodIn_r _ [18, 5, 6, 1, 19, 20, 21, 22, 23, 24, 25, 26, 27, 28, 29, 30, 31, 32, 59, 60, 61, 62, 63, 73, 74, 75, 76, 77, 78, 79, 64, 65, 66, 67, 68, 69, 70, 71, 72] rfl gw_wsX2_serve
set_option maxRecDepth 20000 in
theorem gX2_passDay_X2_serve : GoodIn wsX2_passDay (wsV RX2 45 RX2 yX2_serve wsX2_serve) := goodIn_app (goodIn_of _ (by decide +kernel)) ggX2_passDay_X2_serve
set_option maxRecDepth 20000 in
theorem gw_wsX2_stirPot : (wsX2_stirPot).all goodWord = true := by decide +kernel
set_option maxRecDepth 20000 in
theorem ggX2_passDay_X2_stirPot : GoodIn wsX2_passDay wsX2_stirPot := goodIn_r _ [36, 5, 1, 4, 3, 37, 38, 39, 24, 40, 26, 41, 42, 43, 44, 45, 59, 60, 61, 62, 63, 64, 65, 66, 67, 68, 69, 70, 71, 72, 73, 74, 75, 76, 77, 78, 79] rfl gw_wsX2_stirPot
set_option maxRecDepth 20000 in
theorem gX2_passDay_X2_stirPot : GoodIn wsX2_passDay (wsV RX2 63 RX2 yX2_stirPot wsX2_stirPot) := goodIn_app (goodIn_of _ (by decide +kernel)) ggX2_passDay_X2_stirPot
set_option maxRecDepth 20000 in
theorem ggX2_passDay_X6_placeAfter : GoodIn wsX2_passDay wsX6_placeAfter := goodIn_r _ [44, 45, 73, 74, 75, 76, 77, 78, 79] rfl gw_wsX6_placeAfter
set_option maxRecDepth 20000 in
theorem gX2_passDay_X6_placeAfter : GoodIn wsX2_passDay (wsV RX2 75 RX6 yX6_placeAfter wsX6_placeAfter) := goodIn_app (goodIn_of _ (by decide +kernel)) ggX2_passDay_X6_placeAfter
set_option maxRecDepth 20000 in
theorem ggX2_passDay_X2_bowlOf : GoodIn wsX2_passDay wsX2_bowlOf := goodIn_r _ [50, 3, 51, 52, 53, 17, 54, 19, 59, 60, 61, 62, 63] rfl gw_wsX2_bowlOf
set_option maxRecDepth 20000 in
theorem gX2_passDay_X2_bowlOf : GoodIn wsX2_passDay (wsV RX2 81 RX2 yX2_bowlOf wsX2_bowlOf) := goodIn_app (goodIn_of _ (by decide +kernel)) ggX2_passDay_X2_bowlOf
set_option maxRecDepth 20000 in
theorem ggX2_passDay_X2_holderOf : GoodIn wsX2_passDay wsX2_holderOf := goodIn_r _ [58, 20, 59, 60, 61, 62, 63] rfl gw_wsX2_holderOf
set_option maxRecDepth 20000 in
theorem gX2_passDay_X2_holderOf : GoodIn wsX2_passDay (wsV RX2 84 RX2 yX2_holderOf wsX2_holderOf) := goodIn_app (goodIn_of _ (by decide +kernel)) ggX2_passDay_X2_holderOf
theorem kcX2_passDay : (cX2_passDay).data.toList = cbs 0xb15700b560045700b4591900b42a3c00b55400b64800b41900b42a1c2a1900b42ae0ffa70103844f605100b61d1c2a2e5c1d4e00b41900b42a1b00a21d00b41500b42a1d3e034800b54b00b64800b41900b42a1b1500b42a1900b42a4200b81d00b41500b42a033100b41900b42a031200b42a3f00b61b2a2d00b61c2a3d3c00b41900b42a 133 := by decide +kernel
theorem dX2_passDay_0 : decode cX2_passDay 0 = .ok (.aload_n 0, 1) := op_42 kcX2_passDay (Nat.le_of_ble_eq_true rfl) rfl
theorem dX2_passDay_1 : decode cX2_passDay 1 = .ok (.getfield 25, 3) := op_180 (a := 0) (b := 25) kcX2_passDay (Nat.le_of_ble_eq_true rfl) rfl rfl rfl
theorem dX2_passDay_4 : decode cX2_passDay 4 = .ok (.getfield 60, 3) := op_180 (a := 0) (b := 60) kcX2_passDay (Nat.le_of_ble_eq_true rfl) rfl rfl rfl
theorem dX2_passDay_7 : decode cX2_passDay 7 = .ok (.istore_n 2, 1) := op_61 kcX2_passDay (Nat.le_of_ble_eq_true rfl) rfl
theorem dX2_passDay_8 : decode cX2_passDay 8 = .ok (.aload_n 0, 1) := op_42 kcX2_passDay (Nat.le_of_ble_eq_true rfl) rfl
theorem dX2_passDay_9 : decode cX2_passDay 9 = .ok (.iload_n 2, 1) := op_28 kcX2_passDay (Nat.le_of_ble_eq_true rfl) rfl
theorem dX2_passDay_10 : decode cX2_passDay 10 = .ok (.invokevirtual 45, 3) := op_182 (a := 0) (b := 45) kcX2_passDay (Nat.le_of_ble_eq_true rfl) rfl rfl rfl
theorem dX2_passDay_13 : decode cX2_passDay 13 = .ok (.aload_n 0, 1) := op_42 kcX2_passDay (Nat.le_of_ble_eq_true rfl) rfl
theorem dX2_passDay_14 : decode cX2_passDay 14 = .ok (.iload_n 1, 1) := op_27 kcX2_passDay (Nat.le_of_ble_eq_true rfl) rfl
theorem dX2_passDay_15 : decode cX2_passDay 15 = .ok (.invokevirtual 63, 3) := op_182 (a := 0) (b := 63) kcX2_passDay (Nat.le_of_ble_eq_true rfl) rfl rfl rfl
theorem dX2_passDay_18 : decode cX2_passDay 18 = .ok (.aload_n 0, 1) := op_42 kcX2_passDay (Nat.le_of_ble_eq_true rfl) rfl
theorem dX2_passDay_19 : decode cX2_passDay 19 = .ok (.getfield 18, 3) := op_180 (a := 0) (b := 18) kcX2_passDay (Nat.le_of_ble_eq_true rfl) rfl rfl rfl
theorem dX2_passDay_22 : decode cX2_passDay 22 = .ok (.iconst 0, 1) := op_3 kcX2_passDay (Nat.le_of_ble_eq_true rfl) rfl
theorem dX2_passDay_23 : decode cX2_passDay 23 = .ok (.aload_n 0, 1) := op_42 kcX2_passDay (Nat.le_of_ble_eq_true rfl) rfl
theorem dX2_passDay_24 : decode cX2_passDay 24 = .ok (.getfield 25, 3) := op_180 (a := 0) (b := 25) kcX2_passDay (Nat.le_of_ble_eq_true rfl) rfl rfl rfl
theorem dX2_passDay_27 : decode cX2_passDay 27 = .ok (.getfield 49, 3) := op_180 (a := 0) (b := 49) kcX2_passDay (Nat.le_of_ble_eq_true rfl) rfl rfl rfl
theorem dX2_passDay_30 : decode cX2_passDay 30 = .ok (.iconst 0, 1) := op_3 kcX2_passDay (Nat.le_of_ble_eq_true rfl) rfl
theorem dX2_passDay_31 : decode cX2_passDay 31 = .ok (.aload_n 0, 1) := op_42 kcX2_passDay (Nat.le_of_ble_eq_true rfl) rfl
theorem dX2_passDay_32 : decode cX2_passDay 32 = .ok (.getfield 21, 3) := op_180 (a := 0) (b := 21) kcX2_passDay (Nat.le_of_ble_eq_true rfl) rfl rfl rfl
theorem dX2_passDay_35 : decode cX2_passDay 35 = .ok (.getfield 29, 3) := op_180 (a := 0) (b := 29) kcX2_passDay (Nat.le_of_ble_eq_true rfl) rfl rfl rfl
theorem dX2_passDay_38 : decode cX2_passDay 38 = .ok (.invokestatic 66, 3) := op_184 (a := 0) (b := 66) kcX2_passDay (Nat.le_of_ble_eq_true rfl) rfl rfl rfl
theorem dX2_passDay_41 : decode cX2_passDay 41 = .ok (.aload_n 0, 1) := op_42 kcX2_passDay (Nat.le_of_ble_eq_true rfl) rfl
theorem dX2_passDay_42 : decode cX2_passDay 42 = .ok (.getfield 25, 3) := op_180 (a := 0) (b := 25) kcX2_passDay (Nat.le_of_ble_eq_true rfl) rfl rfl rfl
theorem dX2_passDay_45 : decode cX2_passDay 45 = .ok (.aload_n 0, 1) := op_42 kcX2_passDay (Nat.le_of_ble_eq_true rfl) rfl
theorem dX2_passDay_46 : decode cX2_passDay 46 = .ok (.getfield 21, 3) := op_180 (a := 0) (b := 21) kcX2_passDay (Nat.le_of_ble_eq_true rfl) rfl rfl rfl
theorem dX2_passDay_49 : decode cX2_passDay 49 = .ok (.iload_n 1, 1) := op_27 kcX2_passDay (Nat.le_of_ble_eq_true rfl) rfl
theorem dX2_passDay_50 : decode cX2_passDay 50 = .ok (.aload_n 0, 1) := op_42 kcX2_passDay (Nat.le_of_ble_eq_true rfl) rfl
theorem dX2_passDay_51 : decode cX2_passDay 51 = .ok (.getfield 25, 3) := op_180 (a := 0) (b := 25) kcX2_passDay (Nat.le_of_ble_eq_true rfl) rfl rfl rfl
theorem dX2_passDay_54 : decode cX2_passDay 54 = .ok (.getfield 72, 3) := op_180 (a := 0) (b := 72) kcX2_passDay (Nat.le_of_ble_eq_true rfl) rfl rfl rfl
theorem dX2_passDay_57 : decode cX2_passDay 57 = .ok (.invokevirtual 75, 3) := op_182 (a := 0) (b := 75) kcX2_passDay (Nat.le_of_ble_eq_true rfl) rfl rfl rfl
theorem dX2_passDay_60 : decode cX2_passDay 60 = .ok (.putfield 72, 3) := op_181 (a := 0) (b := 72) kcX2_passDay (Nat.le_of_ble_eq_true rfl) rfl rfl rfl
theorem dX2_passDay_63 : decode cX2_passDay 63 = .ok (.iconst 0, 1) := op_3 kcX2_passDay (Nat.le_of_ble_eq_true rfl) rfl
theorem dX2_passDay_64 : decode cX2_passDay 64 = .ok (.istore_n 3, 1) := op_62 kcX2_passDay (Nat.le_of_ble_eq_true rfl) rfl
theorem dX2_passDay_65 : decode cX2_passDay 65 = .ok (.iload_n 3, 1) := op_29 kcX2_passDay (Nat.le_of_ble_eq_true rfl) rfl
theorem dX2_passDay_66 : decode cX2_passDay 66 = .ok (.aload_n 0, 1) := op_42 kcX2_passDay (Nat.le_of_ble_eq_true rfl) rfl
theorem dX2_passDay_67 : decode cX2_passDay 67 = .ok (.getfield 21, 3) := op_180 (a := 0) (b := 21) kcX2_passDay (Nat.le_of_ble_eq_true rfl) rfl rfl rfl
theorem dX2_passDay_70 : decode cX2_passDay 70 = .ok (.getfield 29, 3) := op_180 (a := 0) (b := 29) kcX2_passDay (Nat.le_of_ble_eq_true rfl) rfl rfl rfl
theorem dX2_passDay_73 : decode cX2_passDay 73 = .ok (.if_icmp .ge 27, 3) := op_162 (a := 0) (b := 27) kcX2_passDay (Nat.le_of_ble_eq_true rfl) rfl rfl rfl (by decide)
theorem dX2_passDay_76 : decode cX2_passDay 76 = .ok (.aload_n 0, 1) := op_42 kcX2_passDay (Nat.le_of_ble_eq_true rfl) rfl
theorem dX2_passDay_77 : decode cX2_passDay 77 = .ok (.getfield 25, 3) := op_180 (a := 0) (b := 25) kcX2_passDay (Nat.le_of_ble_eq_true rfl) rfl rfl rfl
theorem dX2_passDay_80 : decode cX2_passDay 80 = .ok (.getfield 78, 3) := op_180 (a := 0) (b := 78) kcX2_passDay (Nat.le_of_ble_eq_true rfl) rfl rfl rfl
theorem dX2_passDay_83 : decode cX2_passDay 83 = .ok (.iload_n 3, 1) := op_29 kcX2_passDay (Nat.le_of_ble_eq_true rfl) rfl
theorem dX2_passDay_84 : decode cX2_passDay 84 = .ok (.dup2, 1) := op_92 kcX2_passDay (Nat.le_of_ble_eq_true rfl) rfl
theorem dX2_passDay_85 : decode cX2_passDay 85 = .ok (.iaload, 1) := op_46 kcX2_passDay (Nat.le_of_ble_eq_true rfl) rfl
theorem dX2_passDay_86 : decode cX2_passDay 86 = .ok (.aload_n 0, 1) := op_42 kcX2_passDay (Nat.le_of_ble_eq_true rfl) rfl
theorem dX2_passDay_87 : decode cX2_passDay 87 = .ok (.iload_n 2, 1) := op_28 kcX2_passDay (Nat.le_of_ble_eq_true rfl) rfl
theorem dX2_passDay_88 : decode cX2_passDay 88 = .ok (.iload_n 3, 1) := op_29 kcX2_passDay (Nat.le_of_ble_eq_true rfl) rfl
theorem dX2_passDay_89 : decode cX2_passDay 89 = .ok (.invokevirtual 81, 3) := op_182 (a := 0) (b := 81) kcX2_passDay (Nat.le_of_ble_eq_true rfl) rfl rfl rfl
theorem dX2_passDay_92 : decode cX2_passDay 92 = .ok (.iadd, 1) := op_96 kcX2_passDay (Nat.le_of_ble_eq_true rfl) rfl
theorem dX2_passDay_93 : decode cX2_passDay 93 = .ok (.iastore, 1) := op_79 kcX2_passDay (Nat.le_of_ble_eq_true rfl) rfl
theorem dX2_passDay_94 : decode cX2_passDay 94 = .ok (.iinc 3 1, 3) := by decide +kernel
theorem dX2_passDay_97 : decode cX2_passDay 97 = .ok (.goto (-32), 3) := op_167 (a := 255) (b := 224) kcX2_passDay (Nat.le_of_ble_eq_true rfl) rfl rfl rfl (by decide)
theorem dX2_passDay_100 : decode cX2_passDay 100 = .ok (.aload_n 0, 1) := op_42 kcX2_passDay (Nat.le_of_ble_eq_true rfl) rfl
theorem dX2_passDay_101 : decode cX2_passDay 101 = .ok (.getfield 25, 3) := op_180 (a := 0) (b := 25) kcX2_passDay (Nat.le_of_ble_eq_true rfl) rfl rfl rfl
theorem dX2_passDay_104 : decode cX2_passDay 104 = .ok (.aload_n 0, 1) := op_42 kcX2_passDay (Nat.le_of_ble_eq_true rfl) rfl
theorem dX2_passDay_105 : decode cX2_passDay 105 = .ok (.iload_n 2, 1) := op_28 kcX2_passDay (Nat.le_of_ble_eq_true rfl) rfl
theorem dX2_passDay_106 : decode cX2_passDay 106 = .ok (.aload_n 0, 1) := op_42 kcX2_passDay (Nat.le_of_ble_eq_true rfl) rfl
theorem dX2_passDay_107 : decode cX2_passDay 107 = .ok (.getfield 25, 3) := op_180 (a := 0) (b := 25) kcX2_passDay (Nat.le_of_ble_eq_true rfl) rfl rfl rfl
theorem dX2_passDay_110 : decode cX2_passDay 110 = .ok (.getfield 72, 3) := op_180 (a := 0) (b := 72) kcX2_passDay (Nat.le_of_ble_eq_true rfl) rfl rfl rfl
theorem dX2_passDay_113 : decode cX2_passDay 113 = .ok (.invokevirtual 84, 3) := op_182 (a := 0) (b := 84) kcX2_passDay (Nat.le_of_ble_eq_true rfl) rfl rfl rfl
theorem dX2_passDay_116 : decode cX2_passDay 116 = .ok (.putfield 60, 3) := op_181 (a := 0) (b := 60) kcX2_passDay (Nat.le_of_ble_eq_true rfl) rfl rfl rfl
theorem dX2_passDay_119 : decode cX2_passDay 119 = .ok (.aload_n 0, 1) := op_42 kcX2_passDay (Nat.le_of_ble_eq_true rfl) rfl
theorem dX2_passDay_120 : decode cX2_passDay 120 = .ok (.getfield 25, 3) := op_180 (a := 0) (b := 25) kcX2_passDay (Nat.le_of_ble_eq_true rfl) rfl rfl rfl
theorem dX2_passDay_123 : decode cX2_passDay 123 = .ok (.dup, 1) := op_89 kcX2_passDay (Nat.le_of_ble_eq_true rfl) rfl
theorem dX2_passDay_124 : decode cX2_passDay 124 = .ok (.getfield 87, 3) := op_180 (a := 0) (b := 87) kcX2_passDay (Nat.le_of_ble_eq_true rfl) rfl rfl rfl
theorem dX2_passDay_127 : decode cX2_passDay 127 = .ok (.iconst 1, 1) := op_4 kcX2_passDay (Nat.le_of_ble_eq_true rfl) rfl
theorem dX2_passDay_128 : decode cX2_passDay 128 = .ok (.iadd, 1) := op_96 kcX2_passDay (Nat.le_of_ble_eq_true rfl) rfl
theorem dX2_passDay_129 : decode cX2_passDay 129 = .ok (.putfield 87, 3) := op_181 (a := 0) (b := 87) kcX2_passDay (Nat.le_of_ble_eq_true rfl) rfl rfl rfl
theorem dX2_passDay_132 : decode cX2_passDay 132 = .ok (.return_, 1) := op_177 kcX2_passDay (Nat.le_of_ble_eq_true rfl) rfl
theorem kcX3_init : (cX3_init).data.toList = cbs 0xb11500b52b2a1200b50bbc0d102a0f00b50bbc31102a0b00b50bbc31102a0300b72a 34 := by decide +kernel
theorem dX3_init_0 : decode cX3_init 0 = .ok (.aload_n 0, 1) := op_42 kcX3_init (Nat.le_of_ble_eq_true rfl) rfl
theorem dX3_init_1 : decode cX3_init 1 = .ok (.invokespecial 3, 3) := op_183 (a := 0) (b := 3) kcX3_init (Nat.le_of_ble_eq_true rfl) rfl rfl rfl
theorem dX3_init_4 : decode cX3_init 4 = .ok (.aload_n 0, 1) := op_42 kcX3_init (Nat.le_of_ble_eq_true rfl) rfl
theorem dX3_init_5 : decode cX3_init 5 = .ok (.bipush 49, 2) := op_16 (a := 49) kcX3_init (Nat.le_of_ble_eq_true rfl) rfl rfl (by decide)
theorem dX3_init_7 : decode cX3_init 7 = .ok (.newarray .long, 2) := by decide +kernel
theorem dX3_init_9 : decode cX3_init 9 = .ok (.putfield 11, 3) := op_181 (a := 0) (b := 11) kcX3_init (Nat.le_of_ble_eq_true rfl) rfl rfl rfl
theorem dX3_init_12 : decode cX3_init 12 = .ok (.aload_n 0, 1) := op_42 kcX3_init (Nat.le_of_ble_eq_true rfl) rfl
theorem dX3_init_13 : decode cX3_init 13 = .ok (.bipush 49, 2) := op_16 (a := 49) kcX3_init (Nat.le_of_ble_eq_true rfl) rfl rfl (by decide)
theorem dX3_init_15 : decode cX3_init 15 = .ok (.newarray .long, 2) := by decide +kernel
theorem dX3_init_17 : decode cX3_init 17 = .ok (.putfield 15, 3) := op_181 (a := 0) (b := 15) kcX3_init (Nat.le_of_ble_eq_true rfl) rfl rfl rfl
theorem dX3_init_20 : decode cX3_init 20 = .ok (.aload_n 0, 1) := op_42 kcX3_init (Nat.le_of_ble_eq_true rfl) rfl
theorem dX3_init_21 : decode cX3_init 21 = .ok (.bipush 13, 2) := op_16 (a := 13) kcX3_init (Nat.le_of_ble_eq_true rfl) rfl rfl (by decide)
theorem dX3_init_23 : decode cX3_init 23 = .ok (.newarray .long, 2) := by decide +kernel
theorem dX3_init_25 : decode cX3_init 25 = .ok (.putfield 18, 3) := op_181 (a := 0) (b := 18) kcX3_init (Nat.le_of_ble_eq_true rfl) rfl rfl rfl
theorem dX3_init_28 : decode cX3_init 28 = .ok (.aload_n 0, 1) := op_42 kcX3_init (Nat.le_of_ble_eq_true rfl) rfl
theorem dX3_init_29 : decode cX3_init 29 = .ok (.aload_n 1, 1) := op_43 kcX3_init (Nat.le_of_ble_eq_true rfl) rfl
theorem dX3_init_30 : decode cX3_init 30 = .ok (.putfield 21, 3) := op_181 (a := 0) (b := 21) kcX3_init (Nat.le_of_ble_eq_true rfl) rfl rfl rfl
theorem dX3_init_33 : decode cX3_init 33 = .ok (.return_, 1) := op_177 kcX3_init (Nat.le_of_ble_eq_true rfl) rfl
set_option maxRecDepth 20000 in
theorem gw_wsX3_begin : (wsX3_begin).all goodWord = true := by decide +kernel
set_option maxRecDepth 20000 in
theorem ggX3_rowsToCrown_X3_begin : GoodIn wsX3_rowsToCrown wsX3_begin := goodIn_r _ [5, 6, 7, 8, 9, 10, 11, 12, 13, 14, 15, 16, 17, 18, 19, 20, 21, 22, 23, 24, 25, 26, 27, 28, 29, 30, 31, 32, 33, 34, 35, 36, 37, 38, 39, 40, 70, 71, 72, 73, 74, 75, 76, 77, 78, 79, 80, 81, 82, 83, 84, 85, 86, 87, 88, 89, 90, 91, 92, 93, 94] rfl gw_wsX3_begin
set_option maxRecDepth 20000 in
theorem gX3_rowsToCrown_X3_begin : GoodIn wsX3_rowsToCrown (wsV RX3 25 RX3 yX3_begin wsX3_begin) := goodIn_app (goodIn_of _ (by decide +kernel)) ggX3_rowsToCrown_X3_begin
set_option maxRecDepth 20000 in
theorem gw_wsX3_goOn : (wsX3_goOn).all goodWord = true := by decide +kernel
set_option maxRecDepth 20000 in
theorem ggX3_rowsToCrown_X3_goOn : GoodIn wsX3_rowsToCrown wsX3_goOn := goodIn_r _ [44, 45, 6, 46, 47, 7, 48, 49, 50, 51, 37, 38, 39, 40, 52, 53, 54, 4, 55, 56, 57, 58, 59, 28, 60, 61, 62, 63, 64, 14, 65, 24, 70, 71, 72, 73, 74, 75, 76, 77, 78, 88, 89, 90, 91, 92, 93, 94] rfl gw_wsX3_goOn
set_option maxRecDepth 20000 in
theorem gX3_rowsToCrown_X3_goOn : GoodIn wsX3_rowsToCrown (wsV RX3 28 RX3 yX3_goOn wsX3_goOn) := goodIn_app (goodIn_of _ (by decide +kernel)) ggX3_rowsToCrown_X3_goOn
set_option maxRecDepth 20000 in
theorem gw_wsX3_rowsWithKing : (wsX3_rowsWithKing).all goodWord = true := by decide +kernel
set_option maxRecDepth 20000 in
theorem ggX3_rowsToCrown_X3_rowsWithKing : GoodIn wsX3_rowsToCrown wsX3_rowsWithKing := goodIn_r _ [69, 6, 46, 47, 7, 70, 71, 72, 73, 74, 75, 76, 77, 78, 88, 89, 90, 91, 92, 93, 94] rfl gw_wsX3_rowsWithKing
set_option maxRecDepth 20000 in
theorem gX3_rowsToCrown_X3_rowsWithKing : GoodIn wsX3_rowsToCrown (wsV RX3 32 RX3 yX3_rowsWithKing wsX3_rowsWithKing) := goodIn_app (goodIn_of _ (by decide +kernel)) ggX3_rowsToCrown_X3_rowsWithKing
theorem kcX3_rowsToCrown : (cX3_rowsToCrown).data.toList = cbs 0xad2000b61b2af3ffa70103841c00b6032a0e00a21c1d3e031900b62a 28 := by decide +kernel
theorem dX3_rowsToCrown_0 : decode cX3_rowsToCrown 0 = .ok (.aload_n 0, 1) := op_42 kcX3_rowsToCrown (Nat.le_of_ble_eq_true rfl) rfl
theorem dX3_rowsToCrown_1 : decode cX3_rowsToCrown 1 = .ok (.invokevirtual 25, 3) := op_182 (a := 0) (b := 25) kcX3_rowsToCrown (Nat.le_of_ble_eq_true rfl) rfl rfl rfl
theorem dX3_rowsToCrown_4 : decode cX3_rowsToCrown 4 = .ok (.iconst 0, 1) := op_3 kcX3_rowsToCrown (Nat.le_of_ble_eq_true rfl) rfl
theorem dX3_rowsToCrown_5 : decode cX3_rowsToCrown 5 = .ok (.istore_n 3, 1) := op_62 kcX3_rowsToCrown (Nat.le_of_ble_eq_true rfl) rfl
theorem dX3_rowsToCrown_6 : decode cX3_rowsToCrown 6 = .ok (.iload_n 3, 1) := op_29 kcX3_rowsToCrown (Nat.le_of_ble_eq_true rfl) rfl
theorem dX3_rowsToCrown_7 : decode cX3_rowsToCrown 7 = .ok (.iload_n 2, 1) := op_28 kcX3_rowsToCrown (Nat.le_of_ble_eq_true rfl) rfl
theorem dX3_rowsToCrown_8 : decode cX3_rowsToCrown 8 = .ok (.if_icmp .ge 14, 3) := op_162 (a := 0) (b := 14) kcX3_rowsToCrown (Nat.le_of_ble_eq_true rfl) rfl rfl rfl (by decide)
theorem dX3_rowsToCrown_11 : decode cX3_rowsToCrown 11 = .ok (.aload_n 0, 1) := op_42 kcX3_rowsToCrown (Nat.le_of_ble_eq_true rfl) rfl
theorem dX3_rowsToCrown_12 : decode cX3_rowsToCrown 12 = .ok (.iconst 0, 1) := op_3 kcX3_rowsToCrown (Nat.le_of_ble_eq_true rfl) rfl
theorem dX3_rowsToCrown_13 : decode cX3_rowsToCrown 13 = .ok (.invokevirtual 28, 3) := op_182 (a := 0) (b := 28) kcX3_rowsToCrown (Nat.le_of_ble_eq_true rfl) rfl rfl rfl
theorem dX3_rowsToCrown_16 : decode cX3_rowsToCrown 16 = .ok (.iinc 3 1, 3) := by decide +kernel
theorem dX3_rowsToCrown_19 : decode cX3_rowsToCrown 19 = .ok (.goto (-13), 3) := op_167 (a := 255) (b := 243) kcX3_rowsToCrown (Nat.le_of_ble_eq_true rfl) rfl rfl rfl (by decide)
theorem dX3_rowsToCrown_22 : decode cX3_rowsToCrown 22 = .ok (.aload_n 0, 1) := op_42 kcX3_rowsToCrown (Nat.le_of_ble_eq_true rfl) rfl
theorem dX3_rowsToCrown_23 : decode cX3_rowsToCrown 23 = .ok (.iload_n 1, 1) := op_27 kcX3_rowsToCrown (Nat.le_of_ble_eq_true rfl) rfl
theorem dX3_rowsToCrown_24 : decode cX3_rowsToCrown 24 = .ok (.invokevirtual 32, 3) := op_182 (a := 0) (b := 32) kcX3_rowsToCrown (Nat.le_of_ble_eq_true rfl) rfl rfl rfl
theorem dX3_rowsToCrown_27 : decode cX3_rowsToCrown 27 = .ok (.lreturn, 1) := op_173 kcX3_rowsToCrown (Nat.le_of_ble_eq_true rfl) rfl
set_option maxRecDepth 20000 in
theorem ggX3_rowsOfReign_X3_begin : GoodIn wsX3_rowsOfReign wsX3_begin := goodIn_r _ [8, 1, 9, 2, 3, 10, 11, 12, 13, 14, 15, 16, 17, 18, 19, 20, 21, 22, 23, 24, 25, 26, 27, 28, 29, 30, 31, 32, 33, 34, 35, 36, 37, 38, 39, 40, 70, 71, 72, 73, 74, 75, 76, 77, 78, 79, 80, 81, 82, 83, 84, 85, 86, 87, 88, 89, 90, 91, 92, 93, 94] rfl gw_wsX3_begin
set_option maxRecDepth 20000 in
theorem gX3_rowsOfReign_X3_begin : GoodIn wsX3_rowsOfReign (wsV RX3 25 RX3 yX3_begin wsX3_begin) := goodIn_app (goodIn_of _ (by decide +kernel)) ggX3_rowsOfReign_X3_begin
set_option maxRecDepth 20000 in
theorem ggX3_rowsOfReign_X3_goOn : GoodIn wsX3_rowsOfReign wsX3_goOn := goodIn_r _ [44, 45, 1, 46, 47, 9, 48, 49, 50, 51, 37, 38, 39, 40, 52, 53, 54, 7, 55, 56, 57, 58, 59, 28, 60, 61, 62, 63, 64, 14, 65, 24, 70, 71, 72, 73, 74, 75, 76, 77, 78, 88, 89, 90, 91, 92, 93, 94] rfl gw_wsX3_goOn
set_option maxRecDepth 20000 in
theorem gX3_rowsOfReign_X3_goOn : GoodIn wsX3_rowsOfReign (wsV RX3 28 RX3 yX3_goOn wsX3_goOn) := goodIn_app (goodIn_of _ (by decide +kernel)) ggX3_rowsOfReign_X3_goOn
set_option maxRecDepth 20000 in
theorem ggX3_rowsOfReign_X3_rowsWithKing : GoodIn wsX3_rowsOfReign wsX3_rowsWithKing := goodIn_r _ [69, 1, 46, 47, 9, 70, 71, 72, 73, 74, 75, 76, 77, 78, 88, 89, 90, 91, 92, 93, 94] rfl gw_wsX3_rowsWithKing
set_option maxRecDepth 20000 in
theorem gX3_rowsOfReign_X3_rowsWithKing : GoodIn wsX3_rowsOfReign (wsV RX3 32 RX3 yX3_rowsWithKing wsX3_rowsWithKing) := goodIn_app (goodIn_of _ (by decide +kernel)) ggX3_rowsOfReign_X3_rowsWithKing
theorem kcX3_rowsOfReign : (cX3_rowsOfReign).data.toList = cbs 0xad2000b62a00b42400b41500b42a2af3ffa70102841c00b6042a0e00a21b1c3d031900b62a 37 := by decide +kernel
theorem dX3_rowsOfReign_0 : decode cX3_rowsOfReign 0 = .ok (.aload_n 0, 1) := op_42 kcX3_rowsOfReign (Nat.le_of_ble_eq_true rfl) rfl
theorem dX3_rowsOfReign_1 : decode cX3_rowsOfReign 1 = .ok (.invokevirtual 25, 3) := op_182 (a := 0) (b := 25) kcX3_rowsOfReign (Nat.le_of_ble_eq_true rfl) rfl rfl rfl
theorem dX3_rowsOfReign_4 : decode cX3_rowsOfReign 4 = .ok (.iconst 0, 1) := op_3 kcX3_rowsOfReign (Nat.le_of_ble_eq_true rfl) rfl
theorem dX3_rowsOfReign_5 : decode cX3_rowsOfReign 5 = .ok (.istore_n 2, 1) := op_61 kcX3_rowsOfReign (Nat.le_of_ble_eq_true rfl) rfl
theorem dX3_rowsOfReign_6 : decode cX3_rowsOfReign 6 = .ok (.iload_n 2, 1) := op_28 kcX3_rowsOfReign (Nat.le_of_ble_eq_true rfl) rfl
theorem dX3_rowsOfReign_7 : decode cX3_rowsOfReign 7 = .ok (.iload_n 1, 1) := op_27 kcX3_rowsOfReign (Nat.le_of_ble_eq_true rfl) rfl
theorem dX3_rowsOfReign_8 : decode cX3_rowsOfReign 8 = .ok (.if_icmp .ge 14, 3) := op_162 (a := 0) (b := 14) kcX3_rowsOfReign (Nat.le_of_ble_eq_true rfl) rfl rfl rfl (by decide)
theorem dX3_rowsOfReign_11 : decode cX3_rowsOfReign 11 = .ok (.aload_n 0, 1) := op_42 kcX3_rowsOfReign (Nat.le_of_ble_eq_true rfl) rfl
theorem dX3_rowsOfReign_12 : decode cX3_rowsOfReign 12 = .ok (.iconst 1, 1) := op_4 kcX3_rowsOfReign (Nat.le_of_ble_eq_true rfl) rfl
theorem dX3_rowsOfReign_13 : decode cX3_rowsOfReign 13 = .ok (.invokevirtual 28, 3) := op_182 (a := 0) (b := 28) kcX3_rowsOfReign (Nat.le_of_ble_eq_true rfl) rfl rfl rfl
theorem dX3_rowsOfReign_16 : decode cX3_rowsOfReign 16 = .ok (.iinc 2 1, 3) := by decide +kernel
theorem dX3_rowsOfReign_19 : decode cX3_rowsOfReign 19 = .ok (.goto (-13), 3) := op_167 (a := 255) (b := 243) kcX3_rowsOfReign (Nat.le_of_ble_eq_true rfl) rfl rfl rfl (by decide)
theorem dX3_rowsOfReign_22 : decode cX3_rowsOfReign 22 = .ok (.aload_n 0, 1) := op_42 kcX3_rowsOfReign (Nat.le_of_ble_eq_true rfl) rfl
theorem dX3_rowsOfReign_23 : decode cX3_rowsOfReign 23 = .ok (.aload_n 0, 1) := op_42 kcX3_rowsOfReign (Nat.le_of_ble_eq_true rfl) rfl
theorem dX3_rowsOfReign_24 : decode cX3_rowsOfReign 24 = .ok (.getfield 21, 3) := op_180 (a := 0) (b := 21) kcX3_rowsOfReign (Nat.le_of_ble_eq_true rfl) rfl rfl rfl
theorem dX3_rowsOfReign_27 : decode cX3_rowsOfReign 27 = .ok (.getfield 36, 3) := op_180 (a := 0) (b := 36) kcX3_rowsOfReign (Nat.le_of_ble_eq_true rfl) rfl rfl rfl
theorem dX3_rowsOfReign_30 : decode cX3_rowsOfReign 30 = .ok (.getfield 42, 3) := op_180 (a := 0) (b := 42) kcX3_rowsOfReign (Nat.le_of_ble_eq_true rfl) rfl rfl rfl
theorem dX3_rowsOfReign_33 : decode cX3_rowsOfReign 33 = .ok (.invokevirtual 32, 3) := op_182 (a := 0) (b := 32) kcX3_rowsOfReign (Nat.le_of_ble_eq_true rfl) rfl rfl rfl
theorem dX3_rowsOfReign_36 : decode cX3_rowsOfReign 36 = .ok (.lreturn, 1) := op_173 kcX3_rowsOfReign (Nat.le_of_ble_eq_true rfl) rfl
set_option maxRecDepth 20000 in
theorem ggX3_begin_X2_serveAllKings : GoodIn wsX3_begin wsX2_serveAllKings := goodIn_r _ [10, 11, 12, 13, 14, 15, 9, 16, 17, 18, 19, 20, 21, 22, 23, 24, 25, 26, 27, 28, 29, 30, 31, 40, 41, 42, 43, 44, 54, 55, 56, 57, 58, 59, 60, 45, 46, 47, 48, 49, 50, 51, 52, 53] rfl gw_wsX2_serveAllKings
set_option maxRecDepth 20000 in
theorem gX3_begin_X2_serveAllKings : GoodIn wsX3_begin (wsV RX3 48 RX2 yX2_serveAllKings wsX2_serveAllKings) := goodIn_app (goodIn_of _ (by decide +kernel)) ggX3_begin_X2_serveAllKings
set_option maxRecDepth 20000 in
theorem gw_wsJ7_fill_d0a16 : (wsJ7_fill_d0a16).all goodWord = true := by decide +kernel
set_option maxRecDepth 20000 in
theorem ggX3_begin_J7_fill_d0a16 : GoodIn wsX3_begin wsJ7_fill_d0a16 := goodIn_r _ [35] rfl gw_wsJ7_fill_d0a16
set_option maxRecDepth 20000 in
theorem gX3_begin_J7_fill_d0a16 : GoodIn wsX3_begin (va_wsS RX3 51 yJ7_fill_d0a16 wsJ7_fill_d0a16) := goodIn_app (goodIn_of _ (by decide +kernel)) ggX3_begin_J7_fill_d0a16
theorem kcX3_begin : (cX3_begin).data.toList = cbs 0xb1500a603900b42400b41500b42a6807102a00b42400b41500b42a0b00b42a3300b8090b00b42a3000b61500b42a 46 := by decide +kernel
theorem dX3_begin_0 : decode cX3_begin 0 = .ok (.aload_n 0, 1) := op_42 kcX3_begin (Nat.le_of_ble_eq_true rfl) rfl
theorem dX3_begin_1 : decode cX3_begin 1 = .ok (.getfield 21, 3) := op_180 (a := 0) (b := 21) kcX3_begin (Nat.le_of_ble_eq_true rfl) rfl rfl rfl
theorem dX3_begin_4 : decode cX3_begin 4 = .ok (.invokevirtual 48, 3) := op_182 (a := 0) (b := 48) kcX3_begin (Nat.le_of_ble_eq_true rfl) rfl rfl rfl
theorem dX3_begin_7 : decode cX3_begin 7 = .ok (.aload_n 0, 1) := op_42 kcX3_begin (Nat.le_of_ble_eq_true rfl) rfl
theorem dX3_begin_8 : decode cX3_begin 8 = .ok (.getfield 11, 3) := op_180 (a := 0) (b := 11) kcX3_begin (Nat.le_of_ble_eq_true rfl) rfl rfl rfl
theorem dX3_begin_11 : decode cX3_begin 11 = .ok (.lconst 0, 1) := op_9 kcX3_begin (Nat.le_of_ble_eq_true rfl) rfl
theorem dX3_begin_12 : decode cX3_begin 12 = .ok (.invokestatic 51, 3) := op_184 (a := 0) (b := 51) kcX3_begin (Nat.le_of_ble_eq_true rfl) rfl rfl rfl
theorem dX3_begin_15 : decode cX3_begin 15 = .ok (.aload_n 0, 1) := op_42 kcX3_begin (Nat.le_of_ble_eq_true rfl) rfl
theorem dX3_begin_16 : decode cX3_begin 16 = .ok (.getfield 11, 3) := op_180 (a := 0) (b := 11) kcX3_begin (Nat.le_of_ble_eq_true rfl) rfl rfl rfl
theorem dX3_begin_19 : decode cX3_begin 19 = .ok (.aload_n 0, 1) := op_42 kcX3_begin (Nat.le_of_ble_eq_true rfl) rfl
theorem dX3_begin_20 : decode cX3_begin 20 = .ok (.getfield 21, 3) := op_180 (a := 0) (b := 21) kcX3_begin (Nat.le_of_ble_eq_true rfl) rfl rfl rfl
theorem dX3_begin_23 : decode cX3_begin 23 = .ok (.getfield 36, 3) := op_180 (a := 0) (b := 36) kcX3_begin (Nat.le_of_ble_eq_true rfl) rfl rfl rfl
theorem dX3_begin_26 : decode cX3_begin 26 = .ok (.getfield 42, 3) := op_180 (a := 0) (b := 42) kcX3_begin (Nat.le_of_ble_eq_true rfl) rfl rfl rfl
theorem dX3_begin_29 : decode cX3_begin 29 = .ok (.bipush 7, 2) := op_16 (a := 7) kcX3_begin (Nat.le_of_ble_eq_true rfl) rfl rfl (by decide)
theorem dX3_begin_31 : decode cX3_begin 31 = .ok (.imul, 1) := op_104 kcX3_begin (Nat.le_of_ble_eq_true rfl) rfl
theorem dX3_begin_32 : decode cX3_begin 32 = .ok (.aload_n 0, 1) := op_42 kcX3_begin (Nat.le_of_ble_eq_true rfl) rfl
theorem dX3_begin_33 : decode cX3_begin 33 = .ok (.getfield 21, 3) := op_180 (a := 0) (b := 21) kcX3_begin (Nat.le_of_ble_eq_true rfl) rfl rfl rfl
theorem dX3_begin_36 : decode cX3_begin 36 = .ok (.getfield 36, 3) := op_180 (a := 0) (b := 36) kcX3_begin (Nat.le_of_ble_eq_true rfl) rfl rfl rfl
theorem dX3_begin_39 : decode cX3_begin 39 = .ok (.getfield 57, 3) := op_180 (a := 0) (b := 57) kcX3_begin (Nat.le_of_ble_eq_true rfl) rfl rfl rfl
theorem dX3_begin_42 : decode cX3_begin 42 = .ok (.iadd, 1) := op_96 kcX3_begin (Nat.le_of_ble_eq_true rfl) rfl
theorem dX3_begin_43 : decode cX3_begin 43 = .ok (.lconst 1, 1) := op_10 kcX3_begin (Nat.le_of_ble_eq_true rfl) rfl
theorem dX3_begin_44 : decode cX3_begin 44 = .ok (.lastore, 1) := op_80 kcX3_begin (Nat.le_of_ble_eq_true rfl) rfl
theorem dX3_begin_45 : decode cX3_begin 45 = .ok (.return_, 1) := op_177 kcX3_begin (Nat.le_of_ble_eq_true rfl) rfl
set_option maxRecDepth 20000 in
theorem ggX3_goOn_J7_fill_d0a16 : GoodIn wsX3_goOn wsJ7_fill_d0a16 := goodIn_r _ [13] rfl gw_wsJ7_fill_d0a16
set_option maxRecDepth 20000 in
theorem gX3_goOn_J7_fill_d0a16 : GoodIn wsX3_goOn (va_wsS RX3 51 yJ7_fill_d0a16 wsJ7_fill_d0a16) := goodIn_app (goodIn_of _ (by decide +kernel)) ggX3_goOn_J7_fill_d0a16
set_option maxRecDepth 20000 in
theorem gw_wsX3_goOnFrom : (wsX3_goOnFrom).all goodWord = true := by decide +kernel
set_option maxRecDepth 20000 in
theorem ggX3_goOn_X3_goOnFrom : GoodIn wsX3_goOn wsX3_goOnFrom := goodIn_r _ [18, 2, 3, 19, 1, 5, 20, 21, 22, 23, 24, 25, 26, 27, 28, 29, 30, 31, 32, 33, 34, 35, 36, 37, 38, 39, 40, 41, 42, 43, 44, 45, 46, 47] rfl gw_wsX3_goOnFrom
set_option maxRecDepth 20000 in
theorem gX3_goOn_X3_goOnFrom : GoodIn wsX3_goOn (wsV RX3 69 RX3 yX3_goOnFrom wsX3_goOnFrom) := goodIn_app (goodIn_of _ (by decide +kernel)) ggX3_goOn_X3_goOnFrom
theorem kcX3_goOn : (cX3_goOn).data.toList = cbs 0xb14900b83110030b00b42a030f00b42ac2ffa7010284d8ffa70103844500b61b1d1c2a0a009994092f601d6807101c0b00b42a2000a24000b43c00b41500b42a1d3e033600a24000b43c00b41500b42a1c3d033300b8090f00b42a 91 := by decide +kernel
theorem dX3_goOn_0 : decode cX3_goOn 0 = .ok (.aload_n 0, 1) := op_42 kcX3_goOn (Nat.le_of_ble_eq_true rfl) rfl
theorem dX3_goOn_1 : decode cX3_goOn 1 = .ok (.getfield 15, 3) := op_180 (a := 0) (b := 15) kcX3_goOn (Nat.le_of_ble_eq_true rfl) rfl rfl rfl
theorem dX3_goOn_4 : decode cX3_goOn 4 = .ok (.lconst 0, 1) := op_9 kcX3_goOn (Nat.le_of_ble_eq_true rfl) rfl
theorem dX3_goOn_5 : decode cX3_goOn 5 = .ok (.invokestatic 51, 3) := op_184 (a := 0) (b := 51) kcX3_goOn (Nat.le_of_ble_eq_true rfl) rfl rfl rfl
theorem dX3_goOn_8 : decode cX3_goOn 8 = .ok (.iconst 0, 1) := op_3 kcX3_goOn (Nat.le_of_ble_eq_true rfl) rfl
theorem dX3_goOn_9 : decode cX3_goOn 9 = .ok (.istore_n 2, 1) := op_61 kcX3_goOn (Nat.le_of_ble_eq_true rfl) rfl
theorem dX3_goOn_10 : decode cX3_goOn 10 = .ok (.iload_n 2, 1) := op_28 kcX3_goOn (Nat.le_of_ble_eq_true rfl) rfl
theorem dX3_goOn_11 : decode cX3_goOn 11 = .ok (.aload_n 0, 1) := op_42 kcX3_goOn (Nat.le_of_ble_eq_true rfl) rfl
theorem dX3_goOn_12 : decode cX3_goOn 12 = .ok (.getfield 21, 3) := op_180 (a := 0) (b := 21) kcX3_goOn (Nat.le_of_ble_eq_true rfl) rfl rfl rfl
theorem dX3_goOn_15 : decode cX3_goOn 15 = .ok (.getfield 60, 3) := op_180 (a := 0) (b := 60) kcX3_goOn (Nat.le_of_ble_eq_true rfl) rfl rfl rfl
theorem dX3_goOn_18 : decode cX3_goOn 18 = .ok (.getfield 64, 3) := op_180 (a := 0) (b := 64) kcX3_goOn (Nat.le_of_ble_eq_true rfl) rfl rfl rfl
theorem dX3_goOn_21 : decode cX3_goOn 21 = .ok (.if_icmp .ge 54, 3) := op_162 (a := 0) (b := 54) kcX3_goOn (Nat.le_of_ble_eq_true rfl) rfl rfl rfl (by decide)
theorem dX3_goOn_24 : decode cX3_goOn 24 = .ok (.iconst 0, 1) := op_3 kcX3_goOn (Nat.le_of_ble_eq_true rfl) rfl
theorem dX3_goOn_25 : decode cX3_goOn 25 = .ok (.istore_n 3, 1) := op_62 kcX3_goOn (Nat.le_of_ble_eq_true rfl) rfl
theorem dX3_goOn_26 : decode cX3_goOn 26 = .ok (.iload_n 3, 1) := op_29 kcX3_goOn (Nat.le_of_ble_eq_true rfl) rfl
theorem dX3_goOn_27 : decode cX3_goOn 27 = .ok (.aload_n 0, 1) := op_42 kcX3_goOn (Nat.le_of_ble_eq_true rfl) rfl
theorem dX3_goOn_28 : decode cX3_goOn 28 = .ok (.getfield 21, 3) := op_180 (a := 0) (b := 21) kcX3_goOn (Nat.le_of_ble_eq_true rfl) rfl rfl rfl
theorem dX3_goOn_31 : decode cX3_goOn 31 = .ok (.getfield 60, 3) := op_180 (a := 0) (b := 60) kcX3_goOn (Nat.le_of_ble_eq_true rfl) rfl rfl rfl
theorem dX3_goOn_34 : decode cX3_goOn 34 = .ok (.getfield 64, 3) := op_180 (a := 0) (b := 64) kcX3_goOn (Nat.le_of_ble_eq_true rfl) rfl rfl rfl
theorem dX3_goOn_37 : decode cX3_goOn 37 = .ok (.if_icmp .ge 32, 3) := op_162 (a := 0) (b := 32) kcX3_goOn (Nat.le_of_ble_eq_true rfl) rfl rfl rfl (by decide)
theorem dX3_goOn_40 : decode cX3_goOn 40 = .ok (.aload_n 0, 1) := op_42 kcX3_goOn (Nat.le_of_ble_eq_true rfl) rfl
theorem dX3_goOn_41 : decode cX3_goOn 41 = .ok (.getfield 11, 3) := op_180 (a := 0) (b := 11) kcX3_goOn (Nat.le_of_ble_eq_true rfl) rfl rfl rfl
theorem dX3_goOn_44 : decode cX3_goOn 44 = .ok (.iload_n 2, 1) := op_28 kcX3_goOn (Nat.le_of_ble_eq_true rfl) rfl
theorem dX3_goOn_45 : decode cX3_goOn 45 = .ok (.bipush 7, 2) := op_16 (a := 7) kcX3_goOn (Nat.le_of_ble_eq_true rfl) rfl rfl (by decide)
theorem dX3_goOn_47 : decode cX3_goOn 47 = .ok (.imul, 1) := op_104 kcX3_goOn (Nat.le_of_ble_eq_true rfl) rfl
theorem dX3_goOn_48 : decode cX3_goOn 48 = .ok (.iload_n 3, 1) := op_29 kcX3_goOn (Nat.le_of_ble_eq_true rfl) rfl
theorem dX3_goOn_49 : decode cX3_goOn 49 = .ok (.iadd, 1) := op_96 kcX3_goOn (Nat.le_of_ble_eq_true rfl) rfl
theorem dX3_goOn_50 : decode cX3_goOn 50 = .ok (.laload, 1) := op_47 kcX3_goOn (Nat.le_of_ble_eq_true rfl) rfl
theorem dX3_goOn_51 : decode cX3_goOn 51 = .ok (.lconst 0, 1) := op_9 kcX3_goOn (Nat.le_of_ble_eq_true rfl) rfl
theorem dX3_goOn_52 : decode cX3_goOn 52 = .ok (.lcmp, 1) := op_148 kcX3_goOn (Nat.le_of_ble_eq_true rfl) rfl
theorem dX3_goOn_53 : decode cX3_goOn 53 = .ok (.ifCond .eq 10, 3) := op_153 (a := 0) (b := 10) kcX3_goOn (Nat.le_of_ble_eq_true rfl) rfl rfl rfl (by decide)
theorem dX3_goOn_56 : decode cX3_goOn 56 = .ok (.aload_n 0, 1) := op_42 kcX3_goOn (Nat.le_of_ble_eq_true rfl) rfl
theorem dX3_goOn_57 : decode cX3_goOn 57 = .ok (.iload_n 2, 1) := op_28 kcX3_goOn (Nat.le_of_ble_eq_true rfl) rfl
theorem dX3_goOn_58 : decode cX3_goOn 58 = .ok (.iload_n 3, 1) := op_29 kcX3_goOn (Nat.le_of_ble_eq_true rfl) rfl
theorem dX3_goOn_59 : decode cX3_goOn 59 = .ok (.iload_n 1, 1) := op_27 kcX3_goOn (Nat.le_of_ble_eq_true rfl) rfl
theorem dX3_goOn_60 : decode cX3_goOn 60 = .ok (.invokevirtual 69, 3) := op_182 (a := 0) (b := 69) kcX3_goOn (Nat.le_of_ble_eq_true rfl) rfl rfl rfl
theorem dX3_goOn_63 : decode cX3_goOn 63 = .ok (.iinc 3 1, 3) := by decide +kernel
theorem dX3_goOn_66 : decode cX3_goOn 66 = .ok (.goto (-40), 3) := op_167 (a := 255) (b := 216) kcX3_goOn (Nat.le_of_ble_eq_true rfl) rfl rfl rfl (by decide)
theorem dX3_goOn_69 : decode cX3_goOn 69 = .ok (.iinc 2 1, 3) := by decide +kernel
theorem dX3_goOn_72 : decode cX3_goOn 72 = .ok (.goto (-62), 3) := op_167 (a := 255) (b := 194) kcX3_goOn (Nat.le_of_ble_eq_true rfl) rfl rfl rfl (by decide)
theorem dX3_goOn_75 : decode cX3_goOn 75 = .ok (.aload_n 0, 1) := op_42 kcX3_goOn (Nat.le_of_ble_eq_true rfl) rfl
theorem dX3_goOn_76 : decode cX3_goOn 76 = .ok (.getfield 15, 3) := op_180 (a := 0) (b := 15) kcX3_goOn (Nat.le_of_ble_eq_true rfl) rfl rfl rfl
theorem dX3_goOn_79 : decode cX3_goOn 79 = .ok (.iconst 0, 1) := op_3 kcX3_goOn (Nat.le_of_ble_eq_true rfl) rfl
theorem dX3_goOn_80 : decode cX3_goOn 80 = .ok (.aload_n 0, 1) := op_42 kcX3_goOn (Nat.le_of_ble_eq_true rfl) rfl
theorem dX3_goOn_81 : decode cX3_goOn 81 = .ok (.getfield 11, 3) := op_180 (a := 0) (b := 11) kcX3_goOn (Nat.le_of_ble_eq_true rfl) rfl rfl rfl
theorem dX3_goOn_84 : decode cX3_goOn 84 = .ok (.iconst 0, 1) := op_3 kcX3_goOn (Nat.le_of_ble_eq_true rfl) rfl
theorem dX3_goOn_85 : decode cX3_goOn 85 = .ok (.bipush 49, 2) := op_16 (a := 49) kcX3_goOn (Nat.le_of_ble_eq_true rfl) rfl rfl (by decide)
theorem dX3_goOn_87 : decode cX3_goOn 87 = .ok (.invokestatic 73, 3) := op_184 (a := 0) (b := 73) kcX3_goOn (Nat.le_of_ble_eq_true rfl) rfl rfl rfl
theorem dX3_goOn_90 : decode cX3_goOn 90 = .ok (.return_, 1) := op_177 kcX3_goOn (Nat.le_of_ble_eq_true rfl) rfl
set_option maxRecDepth 20000 in
theorem ggX3_goOnFrom_X6_placeAfter : GoodIn wsX3_goOnFrom wsX6_placeAfter := goodIn_r _ [10, 11, 27, 28, 29, 30, 31, 32, 33] rfl gw_wsX6_placeAfter
set_option maxRecDepth 20000 in
theorem gX3_goOnFrom_X6_placeAfter : GoodIn wsX3_goOnFrom (wsV RX3 82 RX6 yX6_placeAfter wsX6_placeAfter) := goodIn_app (goodIn_of _ (by decide +kernel)) ggX3_goOnFrom_X6_placeAfter
set_option maxRecDepth 20000 in
theorem ggX3_goOnFrom_X2_holderOf : GoodIn wsX3_goOnFrom wsX2_holderOf := goodIn_r _ [16, 17, 22, 23, 24, 25, 26] rfl gw_wsX2_holderOf
set_option maxRecDepth 20000 in
theorem gX3_goOnFrom_X2_holderOf : GoodIn wsX3_goOnFrom (wsV RX3 86 RX2 yX2_holderOf wsX2_holderOf) := goodIn_app (goodIn_of _ (by decide +kernel)) ggX3_goOnFrom_X2_holderOf
theorem kcX3_goOnFrom : (cX3_goOnFrom).data.toList = cbs 0xb1aeffa701048450612f601c6807101b0b00b42a2f5c60051568071006150f00b42a1e009a1d07009f1b061506365600b605151b1500b42a05365200b61c04153c00b41500b42a4900a24f00b43c00b41500b42a0415043603 89 := by decide +kernel
theorem dX3_goOnFrom_0 : decode cX3_goOnFrom 0 = .ok (.iconst 0, 1) := op_3 kcX3_goOnFrom (Nat.le_of_ble_eq_true rfl) rfl
theorem dX3_goOnFrom_1 : decode cX3_goOnFrom 1 = .ok (.istore 4, 2) := op_54 (a := 4) kcX3_goOnFrom (Nat.le_of_ble_eq_true rfl) rfl rfl
theorem dX3_goOnFrom_3 : decode cX3_goOnFrom 3 = .ok (.iload 4, 2) := op_21 (a := 4) kcX3_goOnFrom (Nat.le_of_ble_eq_true rfl) rfl rfl
theorem dX3_goOnFrom_5 : decode cX3_goOnFrom 5 = .ok (.aload_n 0, 1) := op_42 kcX3_goOnFrom (Nat.le_of_ble_eq_true rfl) rfl
theorem dX3_goOnFrom_6 : decode cX3_goOnFrom 6 = .ok (.getfield 21, 3) := op_180 (a := 0) (b := 21) kcX3_goOnFrom (Nat.le_of_ble_eq_true rfl) rfl rfl rfl
theorem dX3_goOnFrom_9 : decode cX3_goOnFrom 9 = .ok (.getfield 60, 3) := op_180 (a := 0) (b := 60) kcX3_goOnFrom (Nat.le_of_ble_eq_true rfl) rfl rfl rfl
theorem dX3_goOnFrom_12 : decode cX3_goOnFrom 12 = .ok (.getfield 79, 3) := op_180 (a := 0) (b := 79) kcX3_goOnFrom (Nat.le_of_ble_eq_true rfl) rfl rfl rfl
theorem dX3_goOnFrom_15 : decode cX3_goOnFrom 15 = .ok (.if_icmp .ge 73, 3) := op_162 (a := 0) (b := 73) kcX3_goOnFrom (Nat.le_of_ble_eq_true rfl) rfl rfl rfl (by decide)
theorem dX3_goOnFrom_18 : decode cX3_goOnFrom 18 = .ok (.aload_n 0, 1) := op_42 kcX3_goOnFrom (Nat.le_of_ble_eq_true rfl) rfl
theorem dX3_goOnFrom_19 : decode cX3_goOnFrom 19 = .ok (.getfield 21, 3) := op_180 (a := 0) (b := 21) kcX3_goOnFrom (Nat.le_of_ble_eq_true rfl) rfl rfl rfl
theorem dX3_goOnFrom_22 : decode cX3_goOnFrom 22 = .ok (.getfield 60, 3) := op_180 (a := 0) (b := 60) kcX3_goOnFrom (Nat.le_of_ble_eq_true rfl) rfl rfl rfl
theorem dX3_goOnFrom_25 : decode cX3_goOnFrom 25 = .ok (.iload 4, 2) := op_21 (a := 4) kcX3_goOnFrom (Nat.le_of_ble_eq_true rfl) rfl rfl
theorem dX3_goOnFrom_27 : decode cX3_goOnFrom 27 = .ok (.iload_n 2, 1) := op_28 kcX3_goOnFrom (Nat.le_of_ble_eq_true rfl) rfl
theorem dX3_goOnFrom_28 : decode cX3_goOnFrom 28 = .ok (.invokevirtual 82, 3) := op_182 (a := 0) (b := 82) kcX3_goOnFrom (Nat.le_of_ble_eq_true rfl) rfl rfl rfl
theorem dX3_goOnFrom_31 : decode cX3_goOnFrom 31 = .ok (.istore 5, 2) := op_54 (a := 5) kcX3_goOnFrom (Nat.le_of_ble_eq_true rfl) rfl rfl
theorem dX3_goOnFrom_33 : decode cX3_goOnFrom 33 = .ok (.aload_n 0, 1) := op_42 kcX3_goOnFrom (Nat.le_of_ble_eq_true rfl) rfl
theorem dX3_goOnFrom_34 : decode cX3_goOnFrom 34 = .ok (.getfield 21, 3) := op_180 (a := 0) (b := 21) kcX3_goOnFrom (Nat.le_of_ble_eq_true rfl) rfl rfl rfl
theorem dX3_goOnFrom_37 : decode cX3_goOnFrom 37 = .ok (.iload_n 1, 1) := op_27 kcX3_goOnFrom (Nat.le_of_ble_eq_true rfl) rfl
theorem dX3_goOnFrom_38 : decode cX3_goOnFrom 38 = .ok (.iload 5, 2) := op_21 (a := 5) kcX3_goOnFrom (Nat.le_of_ble_eq_true rfl) rfl rfl
theorem dX3_goOnFrom_40 : decode cX3_goOnFrom 40 = .ok (.invokevirtual 86, 3) := op_182 (a := 0) (b := 86) kcX3_goOnFrom (Nat.le_of_ble_eq_true rfl) rfl rfl rfl
theorem dX3_goOnFrom_43 : decode cX3_goOnFrom 43 = .ok (.istore 6, 2) := op_54 (a := 6) kcX3_goOnFrom (Nat.le_of_ble_eq_true rfl) rfl rfl
theorem dX3_goOnFrom_45 : decode cX3_goOnFrom 45 = .ok (.iload 6, 2) := op_21 (a := 6) kcX3_goOnFrom (Nat.le_of_ble_eq_true rfl) rfl rfl
theorem dX3_goOnFrom_47 : decode cX3_goOnFrom 47 = .ok (.iload_n 1, 1) := op_27 kcX3_goOnFrom (Nat.le_of_ble_eq_true rfl) rfl
theorem dX3_goOnFrom_48 : decode cX3_goOnFrom 48 = .ok (.if_icmp .eq 7, 3) := op_159 (a := 0) (b := 7) kcX3_goOnFrom (Nat.le_of_ble_eq_true rfl) rfl rfl rfl (by decide)
theorem dX3_goOnFrom_51 : decode cX3_goOnFrom 51 = .ok (.iload_n 3, 1) := op_29 kcX3_goOnFrom (Nat.le_of_ble_eq_true rfl) rfl
theorem dX3_goOnFrom_52 : decode cX3_goOnFrom 52 = .ok (.ifCond .ne 30, 3) := op_154 (a := 0) (b := 30) kcX3_goOnFrom (Nat.le_of_ble_eq_true rfl) rfl rfl rfl (by decide)
theorem dX3_goOnFrom_55 : decode cX3_goOnFrom 55 = .ok (.aload_n 0, 1) := op_42 kcX3_goOnFrom (Nat.le_of_ble_eq_true rfl) rfl
theorem dX3_goOnFrom_56 : decode cX3_goOnFrom 56 = .ok (.getfield 15, 3) := op_180 (a := 0) (b := 15) kcX3_goOnFrom (Nat.le_of_ble_eq_true rfl) rfl rfl rfl
theorem dX3_goOnFrom_59 : decode cX3_goOnFrom 59 = .ok (.iload 6, 2) := op_21 (a := 6) kcX3_goOnFrom (Nat.le_of_ble_eq_true rfl) rfl rfl
theorem dX3_goOnFrom_61 : decode cX3_goOnFrom 61 = .ok (.bipush 7, 2) := op_16 (a := 7) kcX3_goOnFrom (Nat.le_of_ble_eq_true rfl) rfl rfl (by decide)
theorem dX3_goOnFrom_63 : decode cX3_goOnFrom 63 = .ok (.imul, 1) := op_104 kcX3_goOnFrom (Nat.le_of_ble_eq_true rfl) rfl
theorem dX3_goOnFrom_64 : decode cX3_goOnFrom 64 = .ok (.iload 5, 2) := op_21 (a := 5) kcX3_goOnFrom (Nat.le_of_ble_eq_true rfl) rfl rfl
theorem dX3_goOnFrom_66 : decode cX3_goOnFrom 66 = .ok (.iadd, 1) := op_96 kcX3_goOnFrom (Nat.le_of_ble_eq_true rfl) rfl
theorem dX3_goOnFrom_67 : decode cX3_goOnFrom 67 = .ok (.dup2, 1) := op_92 kcX3_goOnFrom (Nat.le_of_ble_eq_true rfl) rfl
theorem dX3_goOnFrom_68 : decode cX3_goOnFrom 68 = .ok (.laload, 1) := op_47 kcX3_goOnFrom (Nat.le_of_ble_eq_true rfl) rfl
theorem dX3_goOnFrom_69 : decode cX3_goOnFrom 69 = .ok (.aload_n 0, 1) := op_42 kcX3_goOnFrom (Nat.le_of_ble_eq_true rfl) rfl
theorem dX3_goOnFrom_70 : decode cX3_goOnFrom 70 = .ok (.getfield 11, 3) := op_180 (a := 0) (b := 11) kcX3_goOnFrom (Nat.le_of_ble_eq_true rfl) rfl rfl rfl
theorem dX3_goOnFrom_73 : decode cX3_goOnFrom 73 = .ok (.iload_n 1, 1) := op_27 kcX3_goOnFrom (Nat.le_of_ble_eq_true rfl) rfl
theorem dX3_goOnFrom_74 : decode cX3_goOnFrom 74 = .ok (.bipush 7, 2) := op_16 (a := 7) kcX3_goOnFrom (Nat.le_of_ble_eq_true rfl) rfl rfl (by decide)
theorem dX3_goOnFrom_76 : decode cX3_goOnFrom 76 = .ok (.imul, 1) := op_104 kcX3_goOnFrom (Nat.le_of_ble_eq_true rfl) rfl
theorem dX3_goOnFrom_77 : decode cX3_goOnFrom 77 = .ok (.iload_n 2, 1) := op_28 kcX3_goOnFrom (Nat.le_of_ble_eq_true rfl) rfl
theorem dX3_goOnFrom_78 : decode cX3_goOnFrom 78 = .ok (.iadd, 1) := op_96 kcX3_goOnFrom (Nat.le_of_ble_eq_true rfl) rfl
theorem dX3_goOnFrom_79 : decode cX3_goOnFrom 79 = .ok (.laload, 1) := op_47 kcX3_goOnFrom (Nat.le_of_ble_eq_true rfl) rfl
theorem dX3_goOnFrom_80 : decode cX3_goOnFrom 80 = .ok (.ladd, 1) := op_97 kcX3_goOnFrom (Nat.le_of_ble_eq_true rfl) rfl
theorem dX3_goOnFrom_81 : decode cX3_goOnFrom 81 = .ok (.lastore, 1) := op_80 kcX3_goOnFrom (Nat.le_of_ble_eq_true rfl) rfl
theorem dX3_goOnFrom_82 : decode cX3_goOnFrom 82 = .ok (.iinc 4 1, 3) := by decide +kernel
theorem dX3_goOnFrom_85 : decode cX3_goOnFrom 85 = .ok (.goto (-82), 3) := op_167 (a := 255) (b := 174) kcX3_goOnFrom (Nat.le_of_ble_eq_true rfl) rfl rfl rfl (by decide)
theorem dX3_goOnFrom_88 : decode cX3_goOnFrom 88 = .ok (.return_, 1) := op_177 kcX3_goOnFrom (Nat.le_of_ble_eq_true rfl) rfl
theorem kcX3_rowsWithKing : (cX3_rowsWithKing).data.toList = cbs 0xad20dfffa701048441612f6004156807101b0b00b42a201800a24000b43c00b41500b42a04150436034109 43 := by decide +kernel
theorem dX3_rowsWithKing_0 : decode cX3_rowsWithKing 0 = .ok (.lconst 0, 1) := op_9 kcX3_rowsWithKing (Nat.le_of_ble_eq_true rfl) rfl
theorem dX3_rowsWithKing_1 : decode cX3_rowsWithKing 1 = .ok (.lstore_n 2, 1) := op_65 kcX3_rowsWithKing (Nat.le_of_ble_eq_true rfl) rfl
theorem dX3_rowsWithKing_2 : decode cX3_rowsWithKing 2 = .ok (.iconst 0, 1) := op_3 kcX3_rowsWithKing (Nat.le_of_ble_eq_true rfl) rfl
theorem dX3_rowsWithKing_3 : decode cX3_rowsWithKing 3 = .ok (.istore 4, 2) := op_54 (a := 4) kcX3_rowsWithKing (Nat.le_of_ble_eq_true rfl) rfl rfl
theorem dX3_rowsWithKing_5 : decode cX3_rowsWithKing 5 = .ok (.iload 4, 2) := op_21 (a := 4) kcX3_rowsWithKing (Nat.le_of_ble_eq_true rfl) rfl rfl
theorem dX3_rowsWithKing_7 : decode cX3_rowsWithKing 7 = .ok (.aload_n 0, 1) := op_42 kcX3_rowsWithKing (Nat.le_of_ble_eq_true rfl) rfl
theorem dX3_rowsWithKing_8 : decode cX3_rowsWithKing 8 = .ok (.getfield 21, 3) := op_180 (a := 0) (b := 21) kcX3_rowsWithKing (Nat.le_of_ble_eq_true rfl) rfl rfl rfl
theorem dX3_rowsWithKing_11 : decode cX3_rowsWithKing 11 = .ok (.getfield 60, 3) := op_180 (a := 0) (b := 60) kcX3_rowsWithKing (Nat.le_of_ble_eq_true rfl) rfl rfl rfl
theorem dX3_rowsWithKing_14 : decode cX3_rowsWithKing 14 = .ok (.getfield 64, 3) := op_180 (a := 0) (b := 64) kcX3_rowsWithKing (Nat.le_of_ble_eq_true rfl) rfl rfl rfl
theorem dX3_rowsWithKing_17 : decode cX3_rowsWithKing 17 = .ok (.if_icmp .ge 24, 3) := op_162 (a := 0) (b := 24) kcX3_rowsWithKing (Nat.le_of_ble_eq_true rfl) rfl rfl rfl (by decide)
theorem dX3_rowsWithKing_20 : decode cX3_rowsWithKing 20 = .ok (.lload_n 2, 1) := op_32 kcX3_rowsWithKing (Nat.le_of_ble_eq_true rfl) rfl
theorem dX3_rowsWithKing_21 : decode cX3_rowsWithKing 21 = .ok (.aload_n 0, 1) := op_42 kcX3_rowsWithKing (Nat.le_of_ble_eq_true rfl) rfl
theorem dX3_rowsWithKing_22 : decode cX3_rowsWithKing 22 = .ok (.getfield 11, 3) := op_180 (a := 0) (b := 11) kcX3_rowsWithKing (Nat.le_of_ble_eq_true rfl) rfl rfl rfl
theorem dX3_rowsWithKing_25 : decode cX3_rowsWithKing 25 = .ok (.iload_n 1, 1) := op_27 kcX3_rowsWithKing (Nat.le_of_ble_eq_true rfl) rfl
theorem dX3_rowsWithKing_26 : decode cX3_rowsWithKing 26 = .ok (.bipush 7, 2) := op_16 (a := 7) kcX3_rowsWithKing (Nat.le_of_ble_eq_true rfl) rfl rfl (by decide)
theorem dX3_rowsWithKing_28 : decode cX3_rowsWithKing 28 = .ok (.imul, 1) := op_104 kcX3_rowsWithKing (Nat.le_of_ble_eq_true rfl) rfl
theorem dX3_rowsWithKing_29 : decode cX3_rowsWithKing 29 = .ok (.iload 4, 2) := op_21 (a := 4) kcX3_rowsWithKing (Nat.le_of_ble_eq_true rfl) rfl rfl
theorem dX3_rowsWithKing_31 : decode cX3_rowsWithKing 31 = .ok (.iadd, 1) := op_96 kcX3_rowsWithKing (Nat.le_of_ble_eq_true rfl) rfl
theorem dX3_rowsWithKing_32 : decode cX3_rowsWithKing 32 = .ok (.laload, 1) := op_47 kcX3_rowsWithKing (Nat.le_of_ble_eq_true rfl) rfl
theorem dX3_rowsWithKing_33 : decode cX3_rowsWithKing 33 = .ok (.ladd, 1) := op_97 kcX3_rowsWithKing (Nat.le_of_ble_eq_true rfl) rfl
theorem dX3_rowsWithKing_34 : decode cX3_rowsWithKing 34 = .ok (.lstore_n 2, 1) := op_65 kcX3_rowsWithKing (Nat.le_of_ble_eq_true rfl) rfl
theorem dX3_rowsWithKing_35 : decode cX3_rowsWithKing 35 = .ok (.iinc 4 1, 3) := by decide +kernel
theorem dX3_rowsWithKing_38 : decode cX3_rowsWithKing 38 = .ok (.goto (-33), 3) := op_167 (a := 255) (b := 223) kcX3_rowsWithKing (Nat.le_of_ble_eq_true rfl) rfl rfl rfl (by decide)
theorem dX3_rowsWithKing_41 : decode cX3_rowsWithKing 41 = .ok (.lload_n 2, 1) := op_32 kcX3_rowsWithKing (Nat.le_of_ble_eq_true rfl) rfl
theorem dX3_rowsWithKing_42 : decode cX3_rowsWithKing 42 = .ok (.lreturn, 1) := op_173 kcX3_rowsWithKing (Nat.le_of_ble_eq_true rfl) rfl
set_option maxRecDepth 20000 in
theorem ggX3_triesWithFinds_J7_fill_d0a16 : GoodIn wsX3_triesWithFinds wsJ7_fill_d0a16 := goodIn_r _ [8] rfl gw_wsJ7_fill_d0a16
set_option maxRecDepth 20000 in
theorem gX3_triesWithFinds_J7_fill_d0a16 : GoodIn wsX3_triesWithFinds (va_wsS RX3 51 yJ7_fill_d0a16 wsJ7_fill_d0a16) := goodIn_app (goodIn_of _ (by decide +kernel)) ggX3_triesWithFinds_J7_fill_d0a16
theorem kcX3_triesWithFinds : (cX3_triesWithFinds).data.toList = cbs 0xad21edffa701058442612f05151200b42a211300a31c051505361b4209aeffa701038450698564044000b43c00b41500b42a2f5c031200b42ad2ffa7ff048450612f640404151200b42a698564044000b43c00b41500b42a2f04151200b42a04151200b42a2f009e041504361d5300a31c1d3e04500a031200b42a3300b8091200b42a 131 := by decide +kernel
theorem dX3_triesWithFinds_0 : decode cX3_triesWithFinds 0 = .ok (.aload_n 0, 1) := op_42 kcX3_triesWithFinds (Nat.le_of_ble_eq_true rfl) rfl
theorem dX3_triesWithFinds_1 : decode cX3_triesWithFinds 1 = .ok (.getfield 18, 3) := op_180 (a := 0) (b := 18) kcX3_triesWithFinds (Nat.le_of_ble_eq_true rfl) rfl rfl rfl
theorem dX3_triesWithFinds_4 : decode cX3_triesWithFinds 4 = .ok (.lconst 0, 1) := op_9 kcX3_triesWithFinds (Nat.le_of_ble_eq_true rfl) rfl
theorem dX3_triesWithFinds_5 : decode cX3_triesWithFinds 5 = .ok (.invokestatic 51, 3) := op_184 (a := 0) (b := 51) kcX3_triesWithFinds (Nat.le_of_ble_eq_true rfl) rfl rfl rfl
theorem dX3_triesWithFinds_8 : decode cX3_triesWithFinds 8 = .ok (.aload_n 0, 1) := op_42 kcX3_triesWithFinds (Nat.le_of_ble_eq_true rfl) rfl
theorem dX3_triesWithFinds_9 : decode cX3_triesWithFinds 9 = .ok (.getfield 18, 3) := op_180 (a := 0) (b := 18) kcX3_triesWithFinds (Nat.le_of_ble_eq_true rfl) rfl rfl rfl
theorem dX3_triesWithFinds_12 : decode cX3_triesWithFinds 12 = .ok (.iconst 0, 1) := op_3 kcX3_triesWithFinds (Nat.le_of_ble_eq_true rfl) rfl
theorem dX3_triesWithFinds_13 : decode cX3_triesWithFinds 13 = .ok (.lconst 1, 1) := op_10 kcX3_triesWithFinds (Nat.le_of_ble_eq_true rfl) rfl
theorem dX3_triesWithFinds_14 : decode cX3_triesWithFinds 14 = .ok (.lastore, 1) := op_80 kcX3_triesWithFinds (Nat.le_of_ble_eq_true rfl) rfl
theorem dX3_triesWithFinds_15 : decode cX3_triesWithFinds 15 = .ok (.iconst 1, 1) := op_4 kcX3_triesWithFinds (Nat.le_of_ble_eq_true rfl) rfl
theorem dX3_triesWithFinds_16 : decode cX3_triesWithFinds 16 = .ok (.istore_n 3, 1) := op_62 kcX3_triesWithFinds (Nat.le_of_ble_eq_true rfl) rfl
theorem dX3_triesWithFinds_17 : decode cX3_triesWithFinds 17 = .ok (.iload_n 3, 1) := op_29 kcX3_triesWithFinds (Nat.le_of_ble_eq_true rfl) rfl
theorem dX3_triesWithFinds_18 : decode cX3_triesWithFinds 18 = .ok (.iload_n 2, 1) := op_28 kcX3_triesWithFinds (Nat.le_of_ble_eq_true rfl) rfl
theorem dX3_triesWithFinds_19 : decode cX3_triesWithFinds 19 = .ok (.if_icmp .gt 83, 3) := op_163 (a := 0) (b := 83) kcX3_triesWithFinds (Nat.le_of_ble_eq_true rfl) rfl rfl rfl (by decide)
theorem dX3_triesWithFinds_22 : decode cX3_triesWithFinds 22 = .ok (.iload_n 3, 1) := op_29 kcX3_triesWithFinds (Nat.le_of_ble_eq_true rfl) rfl
theorem dX3_triesWithFinds_23 : decode cX3_triesWithFinds 23 = .ok (.istore 4, 2) := op_54 (a := 4) kcX3_triesWithFinds (Nat.le_of_ble_eq_true rfl) rfl rfl
theorem dX3_triesWithFinds_25 : decode cX3_triesWithFinds 25 = .ok (.iload 4, 2) := op_21 (a := 4) kcX3_triesWithFinds (Nat.le_of_ble_eq_true rfl) rfl rfl
theorem dX3_triesWithFinds_27 : decode cX3_triesWithFinds 27 = .ok (.ifCond .le 47, 3) := op_158 (a := 0) (b := 47) kcX3_triesWithFinds (Nat.le_of_ble_eq_true rfl) rfl rfl rfl (by decide)
theorem dX3_triesWithFinds_30 : decode cX3_triesWithFinds 30 = .ok (.aload_n 0, 1) := op_42 kcX3_triesWithFinds (Nat.le_of_ble_eq_true rfl) rfl
theorem dX3_triesWithFinds_31 : decode cX3_triesWithFinds 31 = .ok (.getfield 18, 3) := op_180 (a := 0) (b := 18) kcX3_triesWithFinds (Nat.le_of_ble_eq_true rfl) rfl rfl rfl
theorem dX3_triesWithFinds_34 : decode cX3_triesWithFinds 34 = .ok (.iload 4, 2) := op_21 (a := 4) kcX3_triesWithFinds (Nat.le_of_ble_eq_true rfl) rfl rfl
theorem dX3_triesWithFinds_36 : decode cX3_triesWithFinds 36 = .ok (.aload_n 0, 1) := op_42 kcX3_triesWithFinds (Nat.le_of_ble_eq_true rfl) rfl
theorem dX3_triesWithFinds_37 : decode cX3_triesWithFinds 37 = .ok (.getfield 18, 3) := op_180 (a := 0) (b := 18) kcX3_triesWithFinds (Nat.le_of_ble_eq_true rfl) rfl rfl rfl
theorem dX3_triesWithFinds_40 : decode cX3_triesWithFinds 40 = .ok (.iload 4, 2) := op_21 (a := 4) kcX3_triesWithFinds (Nat.le_of_ble_eq_true rfl) rfl rfl
theorem dX3_triesWithFinds_42 : decode cX3_triesWithFinds 42 = .ok (.laload, 1) := op_47 kcX3_triesWithFinds (Nat.le_of_ble_eq_true rfl) rfl
theorem dX3_triesWithFinds_43 : decode cX3_triesWithFinds 43 = .ok (.aload_n 0, 1) := op_42 kcX3_triesWithFinds (Nat.le_of_ble_eq_true rfl) rfl
theorem dX3_triesWithFinds_44 : decode cX3_triesWithFinds 44 = .ok (.getfield 21, 3) := op_180 (a := 0) (b := 21) kcX3_triesWithFinds (Nat.le_of_ble_eq_true rfl) rfl rfl rfl
theorem dX3_triesWithFinds_47 : decode cX3_triesWithFinds 47 = .ok (.getfield 60, 3) := op_180 (a := 0) (b := 60) kcX3_triesWithFinds (Nat.le_of_ble_eq_true rfl) rfl rfl rfl
theorem dX3_triesWithFinds_50 : decode cX3_triesWithFinds 50 = .ok (.getfield 64, 3) := op_180 (a := 0) (b := 64) kcX3_triesWithFinds (Nat.le_of_ble_eq_true rfl) rfl rfl rfl
theorem dX3_triesWithFinds_53 : decode cX3_triesWithFinds 53 = .ok (.iconst 1, 1) := op_4 kcX3_triesWithFinds (Nat.le_of_ble_eq_true rfl) rfl
theorem dX3_triesWithFinds_54 : decode cX3_triesWithFinds 54 = .ok (.isub, 1) := op_100 kcX3_triesWithFinds (Nat.le_of_ble_eq_true rfl) rfl
theorem dX3_triesWithFinds_55 : decode cX3_triesWithFinds 55 = .ok (.i2l, 1) := op_133 kcX3_triesWithFinds (Nat.le_of_ble_eq_true rfl) rfl
theorem dX3_triesWithFinds_56 : decode cX3_triesWithFinds 56 = .ok (.lmul, 1) := op_105 kcX3_triesWithFinds (Nat.le_of_ble_eq_true rfl) rfl
theorem dX3_triesWithFinds_57 : decode cX3_triesWithFinds 57 = .ok (.aload_n 0, 1) := op_42 kcX3_triesWithFinds (Nat.le_of_ble_eq_true rfl) rfl
theorem dX3_triesWithFinds_58 : decode cX3_triesWithFinds 58 = .ok (.getfield 18, 3) := op_180 (a := 0) (b := 18) kcX3_triesWithFinds (Nat.le_of_ble_eq_true rfl) rfl rfl rfl
theorem dX3_triesWithFinds_61 : decode cX3_triesWithFinds 61 = .ok (.iload 4, 2) := op_21 (a := 4) kcX3_triesWithFinds (Nat.le_of_ble_eq_true rfl) rfl rfl
theorem dX3_triesWithFinds_63 : decode cX3_triesWithFinds 63 = .ok (.iconst 1, 1) := op_4 kcX3_triesWithFinds (Nat.le_of_ble_eq_true rfl) rfl
theorem dX3_triesWithFinds_64 : decode cX3_triesWithFinds 64 = .ok (.isub, 1) := op_100 kcX3_triesWithFinds (Nat.le_of_ble_eq_true rfl) rfl
theorem dX3_triesWithFinds_65 : decode cX3_triesWithFinds 65 = .ok (.laload, 1) := op_47 kcX3_triesWithFinds (Nat.le_of_ble_eq_true rfl) rfl
theorem dX3_triesWithFinds_66 : decode cX3_triesWithFinds 66 = .ok (.ladd, 1) := op_97 kcX3_triesWithFinds (Nat.le_of_ble_eq_true rfl) rfl
theorem dX3_triesWithFinds_67 : decode cX3_triesWithFinds 67 = .ok (.lastore, 1) := op_80 kcX3_triesWithFinds (Nat.le_of_ble_eq_true rfl) rfl
theorem dX3_triesWithFinds_68 : decode cX3_triesWithFinds 68 = .ok (.iinc 4 (-1), 3) := by decide +kernel
theorem dX3_triesWithFinds_71 : decode cX3_triesWithFinds 71 = .ok (.goto (-46), 3) := op_167 (a := 255) (b := 210) kcX3_triesWithFinds (Nat.le_of_ble_eq_true rfl) rfl rfl rfl (by decide)
theorem dX3_triesWithFinds_74 : decode cX3_triesWithFinds 74 = .ok (.aload_n 0, 1) := op_42 kcX3_triesWithFinds (Nat.le_of_ble_eq_true rfl) rfl
theorem dX3_triesWithFinds_75 : decode cX3_triesWithFinds 75 = .ok (.getfield 18, 3) := op_180 (a := 0) (b := 18) kcX3_triesWithFinds (Nat.le_of_ble_eq_true rfl) rfl rfl rfl
theorem dX3_triesWithFinds_78 : decode cX3_triesWithFinds 78 = .ok (.iconst 0, 1) := op_3 kcX3_triesWithFinds (Nat.le_of_ble_eq_true rfl) rfl
theorem dX3_triesWithFinds_79 : decode cX3_triesWithFinds 79 = .ok (.dup2, 1) := op_92 kcX3_triesWithFinds (Nat.le_of_ble_eq_true rfl) rfl
theorem dX3_triesWithFinds_80 : decode cX3_triesWithFinds 80 = .ok (.laload, 1) := op_47 kcX3_triesWithFinds (Nat.le_of_ble_eq_true rfl) rfl
theorem dX3_triesWithFinds_81 : decode cX3_triesWithFinds 81 = .ok (.aload_n 0, 1) := op_42 kcX3_triesWithFinds (Nat.le_of_ble_eq_true rfl) rfl
theorem dX3_triesWithFinds_82 : decode cX3_triesWithFinds 82 = .ok (.getfield 21, 3) := op_180 (a := 0) (b := 21) kcX3_triesWithFinds (Nat.le_of_ble_eq_true rfl) rfl rfl rfl
theorem dX3_triesWithFinds_85 : decode cX3_triesWithFinds 85 = .ok (.getfield 60, 3) := op_180 (a := 0) (b := 60) kcX3_triesWithFinds (Nat.le_of_ble_eq_true rfl) rfl rfl rfl
theorem dX3_triesWithFinds_88 : decode cX3_triesWithFinds 88 = .ok (.getfield 64, 3) := op_180 (a := 0) (b := 64) kcX3_triesWithFinds (Nat.le_of_ble_eq_true rfl) rfl rfl rfl
theorem dX3_triesWithFinds_91 : decode cX3_triesWithFinds 91 = .ok (.iconst 1, 1) := op_4 kcX3_triesWithFinds (Nat.le_of_ble_eq_true rfl) rfl
theorem dX3_triesWithFinds_92 : decode cX3_triesWithFinds 92 = .ok (.isub, 1) := op_100 kcX3_triesWithFinds (Nat.le_of_ble_eq_true rfl) rfl
theorem dX3_triesWithFinds_93 : decode cX3_triesWithFinds 93 = .ok (.i2l, 1) := op_133 kcX3_triesWithFinds (Nat.le_of_ble_eq_true rfl) rfl
theorem dX3_triesWithFinds_94 : decode cX3_triesWithFinds 94 = .ok (.lmul, 1) := op_105 kcX3_triesWithFinds (Nat.le_of_ble_eq_true rfl) rfl
theorem dX3_triesWithFinds_95 : decode cX3_triesWithFinds 95 = .ok (.lastore, 1) := op_80 kcX3_triesWithFinds (Nat.le_of_ble_eq_true rfl) rfl
theorem dX3_triesWithFinds_96 : decode cX3_triesWithFinds 96 = .ok (.iinc 3 1, 3) := by decide +kernel
theorem dX3_triesWithFinds_99 : decode cX3_triesWithFinds 99 = .ok (.goto (-82), 3) := op_167 (a := 255) (b := 174) kcX3_triesWithFinds (Nat.le_of_ble_eq_true rfl) rfl rfl rfl (by decide)
theorem dX3_triesWithFinds_102 : decode cX3_triesWithFinds 102 = .ok (.lconst 0, 1) := op_9 kcX3_triesWithFinds (Nat.le_of_ble_eq_true rfl) rfl
theorem dX3_triesWithFinds_103 : decode cX3_triesWithFinds 103 = .ok (.lstore_n 3, 1) := op_66 kcX3_triesWithFinds (Nat.le_of_ble_eq_true rfl) rfl
theorem dX3_triesWithFinds_104 : decode cX3_triesWithFinds 104 = .ok (.iload_n 1, 1) := op_27 kcX3_triesWithFinds (Nat.le_of_ble_eq_true rfl) rfl
theorem dX3_triesWithFinds_105 : decode cX3_triesWithFinds 105 = .ok (.istore 5, 2) := op_54 (a := 5) kcX3_triesWithFinds (Nat.le_of_ble_eq_true rfl) rfl rfl
theorem dX3_triesWithFinds_107 : decode cX3_triesWithFinds 107 = .ok (.iload 5, 2) := op_21 (a := 5) kcX3_triesWithFinds (Nat.le_of_ble_eq_true rfl) rfl rfl
theorem dX3_triesWithFinds_109 : decode cX3_triesWithFinds 109 = .ok (.iload_n 2, 1) := op_28 kcX3_triesWithFinds (Nat.le_of_ble_eq_true rfl) rfl
theorem dX3_triesWithFinds_110 : decode cX3_triesWithFinds 110 = .ok (.if_icmp .gt 19, 3) := op_163 (a := 0) (b := 19) kcX3_triesWithFinds (Nat.le_of_ble_eq_true rfl) rfl rfl rfl (by decide)
theorem dX3_triesWithFinds_113 : decode cX3_triesWithFinds 113 = .ok (.lload_n 3, 1) := op_33 kcX3_triesWithFinds (Nat.le_of_ble_eq_true rfl) rfl
theorem dX3_triesWithFinds_114 : decode cX3_triesWithFinds 114 = .ok (.aload_n 0, 1) := op_42 kcX3_triesWithFinds (Nat.le_of_ble_eq_true rfl) rfl
theorem dX3_triesWithFinds_115 : decode cX3_triesWithFinds 115 = .ok (.getfield 18, 3) := op_180 (a := 0) (b := 18) kcX3_triesWithFinds (Nat.le_of_ble_eq_true rfl) rfl rfl rfl
theorem dX3_triesWithFinds_118 : decode cX3_triesWithFinds 118 = .ok (.iload 5, 2) := op_21 (a := 5) kcX3_triesWithFinds (Nat.le_of_ble_eq_true rfl) rfl rfl
theorem dX3_triesWithFinds_120 : decode cX3_triesWithFinds 120 = .ok (.laload, 1) := op_47 kcX3_triesWithFinds (Nat.le_of_ble_eq_true rfl) rfl
theorem dX3_triesWithFinds_121 : decode cX3_triesWithFinds 121 = .ok (.ladd, 1) := op_97 kcX3_triesWithFinds (Nat.le_of_ble_eq_true rfl) rfl
theorem dX3_triesWithFinds_122 : decode cX3_triesWithFinds 122 = .ok (.lstore_n 3, 1) := op_66 kcX3_triesWithFinds (Nat.le_of_ble_eq_true rfl) rfl
theorem dX3_triesWithFinds_123 : decode cX3_triesWithFinds 123 = .ok (.iinc 5 1, 3) := by decide +kernel
theorem dX3_triesWithFinds_126 : decode cX3_triesWithFinds 126 = .ok (.goto (-19), 3) := op_167 (a := 255) (b := 237) kcX3_triesWithFinds (Nat.le_of_ble_eq_true rfl) rfl rfl rfl (by decide)
theorem dX3_triesWithFinds_129 : decode cX3_triesWithFinds 129 = .ok (.lload_n 3, 1) := op_33 kcX3_triesWithFinds (Nat.le_of_ble_eq_true rfl) rfl
theorem dX3_triesWithFinds_130 : decode cX3_triesWithFinds 130 = .ok (.lreturn, 1) := op_173 kcX3_triesWithFinds (Nat.le_of_ble_eq_true rfl) rfl
theorem kcX3_power : (cX3_power).data.toList = cbs 0xad20f2ffa70104844169851a200e00a21b0415043603410a 24 := by decide +kernel
theorem dX3_power_0 : decode cX3_power 0 = .ok (.lconst 1, 1) := op_10 kcX3_power (Nat.le_of_ble_eq_true rfl) rfl
theorem dX3_power_1 : decode cX3_power 1 = .ok (.lstore_n 2, 1) := op_65 kcX3_power (Nat.le_of_ble_eq_true rfl) rfl
theorem dX3_power_2 : decode cX3_power 2 = .ok (.iconst 0, 1) := op_3 kcX3_power (Nat.le_of_ble_eq_true rfl) rfl
theorem dX3_power_3 : decode cX3_power 3 = .ok (.istore 4, 2) := op_54 (a := 4) kcX3_power (Nat.le_of_ble_eq_true rfl) rfl rfl
theorem dX3_power_5 : decode cX3_power 5 = .ok (.iload 4, 2) := op_21 (a := 4) kcX3_power (Nat.le_of_ble_eq_true rfl) rfl rfl
theorem dX3_power_7 : decode cX3_power 7 = .ok (.iload_n 1, 1) := op_27 kcX3_power (Nat.le_of_ble_eq_true rfl) rfl
theorem dX3_power_8 : decode cX3_power 8 = .ok (.if_icmp .ge 14, 3) := op_162 (a := 0) (b := 14) kcX3_power (Nat.le_of_ble_eq_true rfl) rfl rfl rfl (by decide)
theorem dX3_power_11 : decode cX3_power 11 = .ok (.lload_n 2, 1) := op_32 kcX3_power (Nat.le_of_ble_eq_true rfl) rfl
theorem dX3_power_12 : decode cX3_power 12 = .ok (.iload_n 0, 1) := op_26 kcX3_power (Nat.le_of_ble_eq_true rfl) rfl
theorem dX3_power_13 : decode cX3_power 13 = .ok (.i2l, 1) := op_133 kcX3_power (Nat.le_of_ble_eq_true rfl) rfl
theorem dX3_power_14 : decode cX3_power 14 = .ok (.lmul, 1) := op_105 kcX3_power (Nat.le_of_ble_eq_true rfl) rfl
theorem dX3_power_15 : decode cX3_power 15 = .ok (.lstore_n 2, 1) := op_65 kcX3_power (Nat.le_of_ble_eq_true rfl) rfl
theorem dX3_power_16 : decode cX3_power 16 = .ok (.iinc 4 1, 3) := by decide +kernel
theorem dX3_power_19 : decode cX3_power 19 = .ok (.goto (-14), 3) := op_167 (a := 255) (b := 242) kcX3_power (Nat.le_of_ble_eq_true rfl) rfl rfl rfl (by decide)
theorem dX3_power_22 : decode cX3_power 22 = .ok (.lload_n 2, 1) := op_32 kcX3_power (Nat.le_of_ble_eq_true rfl) rfl
theorem dX3_power_23 : decode cX3_power 23 = .ok (.lreturn, 1) := op_173 kcX3_power (Nat.le_of_ble_eq_true rfl) rfl
set_option maxRecDepth 20000 in
theorem gw_wsX3_greatestDivisor : (wsX3_greatestDivisor).all goodWord = true := by decide +kernel
set_option maxRecDepth 20000 in
theorem ggX3_part_X3_greatestDivisor : GoodIn wsX3_part wsX3_greatestDivisor := goodIn_r _ [4] rfl gw_wsX3_greatestDivisor
set_option maxRecDepth 20000 in
theorem gX3_part_X3_greatestDivisor : GoodIn wsX3_part (va_wsS RX3 89 yX3_greatestDivisor wsX3_greatestDivisor) := goodIn_app (goodIn_of _ (by decide +kernel)) ggX3_part_X3_greatestDivisor
theorem kcX3_part : (cX3_part).data.toList = cbs 0xad6d0516200700a76d05161e0a009a0415ad85041507009a9409051605375900b8201e 35 := by decide +kernel
theorem dX3_part_0 : decode cX3_part 0 = .ok (.lload_n 0, 1) := op_30 kcX3_part (Nat.le_of_ble_eq_true rfl) rfl
theorem dX3_part_1 : decode cX3_part 1 = .ok (.lload_n 2, 1) := op_32 kcX3_part (Nat.le_of_ble_eq_true rfl) rfl
theorem dX3_part_2 : decode cX3_part 2 = .ok (.invokestatic 89, 3) := op_184 (a := 0) (b := 89) kcX3_part (Nat.le_of_ble_eq_true rfl) rfl rfl rfl
theorem dX3_part_5 : decode cX3_part 5 = .ok (.lstore 5, 2) := op_55 (a := 5) kcX3_part (Nat.le_of_ble_eq_true rfl) rfl rfl
theorem dX3_part_7 : decode cX3_part 7 = .ok (.lload 5, 2) := op_22 (a := 5) kcX3_part (Nat.le_of_ble_eq_true rfl) rfl rfl
theorem dX3_part_9 : decode cX3_part 9 = .ok (.lconst 0, 1) := op_9 kcX3_part (Nat.le_of_ble_eq_true rfl) rfl
theorem dX3_part_10 : decode cX3_part 10 = .ok (.lcmp, 1) := op_148 kcX3_part (Nat.le_of_ble_eq_true rfl) rfl
theorem dX3_part_11 : decode cX3_part 11 = .ok (.ifCond .ne 7, 3) := op_154 (a := 0) (b := 7) kcX3_part (Nat.le_of_ble_eq_true rfl) rfl rfl rfl (by decide)
theorem dX3_part_14 : decode cX3_part 14 = .ok (.iload 4, 2) := op_21 (a := 4) kcX3_part (Nat.le_of_ble_eq_true rfl) rfl rfl
theorem dX3_part_16 : decode cX3_part 16 = .ok (.i2l, 1) := op_133 kcX3_part (Nat.le_of_ble_eq_true rfl) rfl
theorem dX3_part_17 : decode cX3_part 17 = .ok (.lreturn, 1) := op_173 kcX3_part (Nat.le_of_ble_eq_true rfl) rfl
theorem dX3_part_18 : decode cX3_part 18 = .ok (.iload 4, 2) := op_21 (a := 4) kcX3_part (Nat.le_of_ble_eq_true rfl) rfl rfl
theorem dX3_part_20 : decode cX3_part 20 = .ok (.ifCond .ne 10, 3) := op_154 (a := 0) (b := 10) kcX3_part (Nat.le_of_ble_eq_true rfl) rfl rfl rfl (by decide)
theorem dX3_part_23 : decode cX3_part 23 = .ok (.lload_n 0, 1) := op_30 kcX3_part (Nat.le_of_ble_eq_true rfl) rfl
theorem dX3_part_24 : decode cX3_part 24 = .ok (.lload 5, 2) := op_22 (a := 5) kcX3_part (Nat.le_of_ble_eq_true rfl) rfl rfl
theorem dX3_part_26 : decode cX3_part 26 = .ok (.ldiv, 1) := op_109 kcX3_part (Nat.le_of_ble_eq_true rfl) rfl
theorem dX3_part_27 : decode cX3_part 27 = .ok (.goto 7, 3) := op_167 (a := 0) (b := 7) kcX3_part (Nat.le_of_ble_eq_true rfl) rfl rfl rfl (by decide)
theorem dX3_part_30 : decode cX3_part 30 = .ok (.lload_n 2, 1) := op_32 kcX3_part (Nat.le_of_ble_eq_true rfl) rfl
theorem dX3_part_31 : decode cX3_part 31 = .ok (.lload 5, 2) := op_22 (a := 5) kcX3_part (Nat.le_of_ble_eq_true rfl) rfl rfl
theorem dX3_part_33 : decode cX3_part 33 = .ok (.ldiv, 1) := op_109 kcX3_part (Nat.le_of_ble_eq_true rfl) rfl
theorem dX3_part_34 : decode cX3_part 34 = .ok (.lreturn, 1) := op_173 kcX3_part (Nat.le_of_ble_eq_true rfl) rfl
theorem kcX3_greatestDivisor : (cX3_greatestDivisor).data.toList = cbs 0xad0416dfffa7010884063709160437061609377106160416180099940906161f00a2c80011081508360306372004371e 48 := by decide +kernel
theorem dX3_greatestDivisor_0 : decode cX3_greatestDivisor 0 = .ok (.lload_n 0, 1) := op_30 kcX3_greatestDivisor (Nat.le_of_ble_eq_true rfl) rfl
theorem dX3_greatestDivisor_1 : decode cX3_greatestDivisor 1 = .ok (.lstore 4, 2) := op_55 (a := 4) kcX3_greatestDivisor (Nat.le_of_ble_eq_true rfl) rfl rfl
theorem dX3_greatestDivisor_3 : decode cX3_greatestDivisor 3 = .ok (.lload_n 2, 1) := op_32 kcX3_greatestDivisor (Nat.le_of_ble_eq_true rfl) rfl
theorem dX3_greatestDivisor_4 : decode cX3_greatestDivisor 4 = .ok (.lstore 6, 2) := op_55 (a := 6) kcX3_greatestDivisor (Nat.le_of_ble_eq_true rfl) rfl rfl
theorem dX3_greatestDivisor_6 : decode cX3_greatestDivisor 6 = .ok (.iconst 0, 1) := op_3 kcX3_greatestDivisor (Nat.le_of_ble_eq_true rfl) rfl
theorem dX3_greatestDivisor_7 : decode cX3_greatestDivisor 7 = .ok (.istore 8, 2) := op_54 (a := 8) kcX3_greatestDivisor (Nat.le_of_ble_eq_true rfl) rfl rfl
theorem dX3_greatestDivisor_9 : decode cX3_greatestDivisor 9 = .ok (.iload 8, 2) := op_21 (a := 8) kcX3_greatestDivisor (Nat.le_of_ble_eq_true rfl) rfl rfl
theorem dX3_greatestDivisor_11 : decode cX3_greatestDivisor 11 = .ok (.sipush 200, 3) := by decide +kernel
theorem dX3_greatestDivisor_14 : decode cX3_greatestDivisor 14 = .ok (.if_icmp .ge 31, 3) := op_162 (a := 0) (b := 31) kcX3_greatestDivisor (Nat.le_of_ble_eq_true rfl) rfl rfl rfl (by decide)
theorem dX3_greatestDivisor_17 : decode cX3_greatestDivisor 17 = .ok (.lload 6, 2) := op_22 (a := 6) kcX3_greatestDivisor (Nat.le_of_ble_eq_true rfl) rfl rfl
theorem dX3_greatestDivisor_19 : decode cX3_greatestDivisor 19 = .ok (.lconst 0, 1) := op_9 kcX3_greatestDivisor (Nat.le_of_ble_eq_true rfl) rfl
theorem dX3_greatestDivisor_20 : decode cX3_greatestDivisor 20 = .ok (.lcmp, 1) := op_148 kcX3_greatestDivisor (Nat.le_of_ble_eq_true rfl) rfl
theorem dX3_greatestDivisor_21 : decode cX3_greatestDivisor 21 = .ok (.ifCond .eq 24, 3) := op_153 (a := 0) (b := 24) kcX3_greatestDivisor (Nat.le_of_ble_eq_true rfl) rfl rfl rfl (by decide)
theorem dX3_greatestDivisor_24 : decode cX3_greatestDivisor 24 = .ok (.lload 4, 2) := op_22 (a := 4) kcX3_greatestDivisor (Nat.le_of_ble_eq_true rfl) rfl rfl
theorem dX3_greatestDivisor_26 : decode cX3_greatestDivisor 26 = .ok (.lload 6, 2) := op_22 (a := 6) kcX3_greatestDivisor (Nat.le_of_ble_eq_true rfl) rfl rfl
theorem dX3_greatestDivisor_28 : decode cX3_greatestDivisor 28 = .ok (.lrem, 1) := op_113 kcX3_greatestDivisor (Nat.le_of_ble_eq_true rfl) rfl
theorem dX3_greatestDivisor_29 : decode cX3_greatestDivisor 29 = .ok (.lstore 9, 2) := op_55 (a := 9) kcX3_greatestDivisor (Nat.le_of_ble_eq_true rfl) rfl rfl
theorem dX3_greatestDivisor_31 : decode cX3_greatestDivisor 31 = .ok (.lload 6, 2) := op_22 (a := 6) kcX3_greatestDivisor (Nat.le_of_ble_eq_true rfl) rfl rfl
theorem dX3_greatestDivisor_33 : decode cX3_greatestDivisor 33 = .ok (.lstore 4, 2) := op_55 (a := 4) kcX3_greatestDivisor (Nat.le_of_ble_eq_true rfl) rfl rfl
theorem dX3_greatestDivisor_35 : decode cX3_greatestDivisor 35 = .ok (.lload 9, 2) := op_22 (a := 9) kcX3_greatestDivisor (Nat.le_of_ble_eq_true rfl) rfl rfl
theorem dX3_greatestDivisor_37 : decode cX3_greatestDivisor 37 = .ok (.lstore 6, 2) := op_55 (a := 6) kcX3_greatestDivisor (Nat.le_of_ble_eq_true rfl) rfl rfl
theorem dX3_greatestDivisor_39 : decode cX3_greatestDivisor 39 = .ok (.iinc 8 1, 3) := by decide +kernel
theorem dX3_greatestDivisor_42 : decode cX3_greatestDivisor 42 = .ok (.goto (-33), 3) := op_167 (a := 255) (b := 223) kcX3_greatestDivisor (Nat.le_of_ble_eq_true rfl) rfl rfl rfl (by decide)
theorem dX3_greatestDivisor_45 : decode cX3_greatestDivisor 45 = .ok (.lload 4, 2) := op_22 (a := 4) kcX3_greatestDivisor (Nat.le_of_ble_eq_true rfl) rfl rfl
theorem dX3_greatestDivisor_47 : decode cX3_greatestDivisor 47 = .ok (.lreturn, 1) := op_173 kcX3_greatestDivisor (Nat.le_of_ble_eq_true rfl) rfl
theorem kcX4_init : (cX4_init).data.toList = cbs 0xb10f00b52b2a0900b50abc06102a0300b72a 18 := by decide +kernel
theorem dX4_init_0 : decode cX4_init 0 = .ok (.aload_n 0, 1) := op_42 kcX4_init (Nat.le_of_ble_eq_true rfl) rfl
theorem dX4_init_1 : decode cX4_init 1 = .ok (.invokespecial 3, 3) := op_183 (a := 0) (b := 3) kcX4_init (Nat.le_of_ble_eq_true rfl) rfl rfl rfl
theorem dX4_init_4 : decode cX4_init 4 = .ok (.aload_n 0, 1) := op_42 kcX4_init (Nat.le_of_ble_eq_true rfl) rfl
theorem dX4_init_5 : decode cX4_init 5 = .ok (.bipush 6, 2) := op_16 (a := 6) kcX4_init (Nat.le_of_ble_eq_true rfl) rfl rfl (by decide)
theorem dX4_init_7 : decode cX4_init 7 = .ok (.newarray .int, 2) := by decide +kernel
theorem dX4_init_9 : decode cX4_init 9 = .ok (.putfield 9, 3) := op_181 (a := 0) (b := 9) kcX4_init (Nat.le_of_ble_eq_true rfl) rfl rfl rfl
theorem dX4_init_12 : decode cX4_init 12 = .ok (.aload_n 0, 1) := op_42 kcX4_init (Nat.le_of_ble_eq_true rfl) rfl
theorem dX4_init_13 : decode cX4_init 13 = .ok (.aload_n 1, 1) := op_43 kcX4_init (Nat.le_of_ble_eq_true rfl) rfl
theorem dX4_init_14 : decode cX4_init 14 = .ok (.putfield 15, 3) := op_181 (a := 0) (b := 15) kcX4_init (Nat.le_of_ble_eq_true rfl) rfl rfl rfl
theorem dX4_init_17 : decode cX4_init 17 = .ok (.return_, 1) := op_177 kcX4_init (Nat.le_of_ble_eq_true rfl) rfl
set_option maxRecDepth 20000 in
theorem ggX4_howMany_X2_serve : GoodIn wsX4_howMany wsX2_serve := goodIn_r _ [12, 13, 14, 15, 16, 17, 18, 19, 20, 21, 22, 23, 24, 25, 26, 27, 28, 29, 55, 56, 57, 58, 59, 69, 70, 71, 72, 73, 74, 75, 60, 61, 62, 63, 64, 65, 66, 67, 68] rfl gw_wsX2_serve
set_option maxRecDepth 20000 in
theorem gX4_howMany_X2_serve : GoodIn wsX4_howMany (wsV RX4 40 RX2 yX2_serve wsX2_serve) := goodIn_app (goodIn_of _ (by decide +kernel)) ggX4_howMany_X2_serve
set_option maxRecDepth 20000 in
theorem ggX4_howMany_X2_placeOf : GoodIn wsX4_howMany wsX2_placeOf := goodIn_r _ [33, 16, 55, 56, 57, 58, 59] rfl gw_wsX2_placeOf
set_option maxRecDepth 20000 in
theorem gX4_howMany_X2_placeOf : GoodIn wsX4_howMany (wsV RX4 44 RX2 yX2_placeOf wsX2_placeOf) := goodIn_app (goodIn_of _ (by decide +kernel)) ggX4_howMany_X2_placeOf
set_option maxRecDepth 20000 in
theorem gw_wsX4_stirsBringing : (wsX4_stirsBringing).all goodWord = true := by decide +kernel
set_option maxRecDepth 20000 in
theorem ggX4_howMany_X4_stirsBringing : GoodIn wsX4_howMany wsX4_stirsBringing := goodIn_r _ [38, 1, 39, 40, 41, 42, 43, 21, 44, 45, 53, 54, 55, 56, 57, 58, 59, 69, 70, 71, 72, 73, 74, 75] rfl gw_wsX4_stirsBringing
set_option maxRecDepth 20000 in
theorem gX4_howMany_X4_stirsBringing : GoodIn wsX4_howMany (wsV RX4 48 RX4 yX4_stirsBringing wsX4_stirsBringing) := goodIn_app (goodIn_of _ (by decide +kernel)) ggX4_howMany_X4_stirsBringing
set_option maxRecDepth 20000 in
theorem gw_wsJ6_bitCount_0f7a4 : (wsJ6_bitCount_0f7a4).all goodWord = true := by decide +kernel
set_option maxRecDepth 20000 in
theorem ggX4_howMany_J6_bitCount_0f7a4 : GoodIn wsX4_howMany wsJ6_bitCount_0f7a4 := goodIn_r _ [49, 50, 51, 52] rfl gw_wsJ6_bitCount_0f7a4
set_option maxRecDepth 20000 in
theorem gX4_howMany_J6_bitCount_0f7a4 : GoodIn wsX4_howMany (va_wsS RX4 51 yJ6_bitCount_0f7a4 wsJ6_bitCount_0f7a4) := goodIn_app (goodIn_of _ (by decide +kernel)) ggX4_howMany_J6_bitCount_0f7a4
theorem kcX4_howMany : (cX4_howMany).data.toList = cbs 0xac1baaffa70104843e06153d05153c683300b82e04150900b42a1b4f3000b606151d2a04150900b42a06362c00b605151c0f00b42a2800b61c0f00b42a05362e04152500b41300b40f00b42a4d00a22200b41300b40f00b42a04150436033e1f00b41300b40f00b42a3d1900b41300b40f00b42a3c04 118 := by decide +kernel
theorem dX4_howMany_0 : decode cX4_howMany 0 = .ok (.iconst 1, 1) := op_4 kcX4_howMany (Nat.le_of_ble_eq_true rfl) rfl
