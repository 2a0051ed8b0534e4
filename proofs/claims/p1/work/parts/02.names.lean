theorem goodIn_r {big : List Cond} (ws : List Cond) (ps : List Nat) (hp : ws = ps.filterMap (fun i => big[i]?)) (h : ws.all goodWord = true) : GoodIn big ws := by
  intro w hw
  have h1 := List.all_eq_true.mp h w hw
  rw [hp] at hw
  obtain ⟨i, -, hi⟩ := List.mem_filterMap.mp hw
  have hm : w ∈ big := by first | exact List.mem_of_getElem? hi | exact List.getElem?_mem hi
  exact ⟨hm, good_of_word h1⟩
theorem goodIn_app {big a b : List Cond} (ha : GoodIn big a) (hb : GoodIn big b) : GoodIn big (a ++ b) := fun w h => (List.mem_append.mp h).elim (ha w) (hb w)
def RX0 : String := "LoopEnvelopes$Bytes"
def TX0 : u_T := fun k => match k with
  | 0 => ("LoopEnvelopes$Bytes", "cells", "[B", true)
  | _ => ("LoopEnvelopes$Bytes", "used", "I", false)
def tyX0 : Nat → FieldType := fun k => match k with
  | 0 => .array .byte
  | _ => .int
abbrev wsX00 : List Cond := u_ws RX0 TX0 2
theorem nmX0 : ∀ a, a < 2 → ∀ b, b < 2 → a ≠ b → (TX0 a).2.1 ≠ (TX0 b).2.1 := by decide +kernel
theorem tyX0_ok : ∀ k, k < 2 → parseFieldDescriptor (TX0 k).2.2.1 = some (tyX0 k) := by decide +kernel
abbrev cX0_init : ByteArray := prog_2_method_1_code
def yX0_init : MethodName := ⟨RX0, "<init>", "(I)V"⟩
abbrev cX0_length : ByteArray := prog_2_method_2_code
def yX0_length : MethodName := ⟨RX0, "length", "()I"⟩
abbrev cX0_at : ByteArray := prog_2_method_3_code
def yX0_at : MethodName := ⟨RX0, "at", "(I)I"⟩
abbrev cX0_put : ByteArray := prog_2_method_4_code
def yX0_put : MethodName := ⟨RX0, "put", "(II)V"⟩
abbrev cX0_append : ByteArray := prog_2_method_5_code
def yX0_append : MethodName := ⟨RX0, "append", "(I)Z"⟩
abbrev cX0_shorten : ByteArray := prog_2_method_6_code
def yX0_shorten : MethodName := ⟨RX0, "shorten", "(I)V"⟩
abbrev cX0_become : ByteArray := prog_2_method_7_code
def yX0_become : MethodName := ⟨RX0, "become", "(LLoopEnvelopes$Bytes;)V"⟩
def RX1 : String := "LoopEnvelopes$Frames"
def TX1 : u_T := fun k => match k with
  | 0 => ("LoopEnvelopes$Frames", "segments", "LLoopEnvelopes$Segments;", true)
  | 1 => ("LoopEnvelopes$Frames", "groups", "LLoopEnvelopes$Table;", true)
  | 2 => ("LoopEnvelopes$Frames", "sets", "LLoopEnvelopes$Table;", true)
  | 3 => ("LoopEnvelopes$Frames", "groupsHeld", "I", false)
  | 4 => ("LoopEnvelopes$Frames", "setsHeld", "I", false)
  | _ => ("LoopEnvelopes$Frames", "stage", "I", false)
def tyX1 : Nat → FieldType := fun k => match k with
  | 0 => .object "LoopEnvelopes$Segments"
  | 1 => .object "LoopEnvelopes$Table"
  | 2 => .object "LoopEnvelopes$Table"
  | 3 => .int
  | 4 => .int
  | _ => .int
abbrev wsX10 : List Cond := u_ws RX1 TX1 6
theorem nmX1 : ∀ a, a < 6 → ∀ b, b < 6 → a ≠ b → (TX1 a).2.1 ≠ (TX1 b).2.1 := by decide +kernel
theorem tyX1_ok : ∀ k, k < 6 → parseFieldDescriptor (TX1 k).2.2.1 = some (tyX1 k) := by decide +kernel
abbrev cX1_init : ByteArray := prog_3_method_1_code
def yX1_init : MethodName := ⟨RX1, "<init>", "(LLoopEnvelopes$Segments;)V"⟩
abbrev cX1_clear : ByteArray := prog_3_method_2_code
def yX1_clear : MethodName := ⟨RX1, "clear", "()V"⟩
abbrev cX1_groupsHeld : ByteArray := prog_3_method_3_code
def yX1_groupsHeld : MethodName := ⟨RX1, "groupsHeld", "()I"⟩
abbrev cX1_setsHeld : ByteArray := prog_3_method_4_code
def yX1_setsHeld : MethodName := ⟨RX1, "setsHeld", "()I"⟩
abbrev cX1_areClosed : ByteArray := prog_3_method_5_code
def yX1_areClosed : MethodName := ⟨RX1, "areClosed", "()Z"⟩
abbrev cX1_ofGroup : ByteArray := prog_3_method_6_code
def yX1_ofGroup : MethodName := ⟨RX1, "ofGroup", "(II)I"⟩
abbrev cX1_ofSet : ByteArray := prog_3_method_7_code
def yX1_ofSet : MethodName := ⟨RX1, "ofSet", "(II)I"⟩
abbrev cX1_noteOfSet : ByteArray := prog_3_method_8_code
def yX1_noteOfSet : MethodName := ⟨RX1, "noteOfSet", "(III)V"⟩
abbrev cX1_nthInSet : ByteArray := prog_3_method_9_code
def yX1_nthInSet : MethodName := ⟨RX1, "nthInSet", "(III)I"⟩
abbrev cX1_admit : ByteArray := prog_3_method_10_code
def yX1_admit : MethodName := ⟨RX1, "admit", "(I)Z"⟩
abbrev cX1_beginGroup : ByteArray := prog_3_method_11_code
def yX1_beginGroup : MethodName := ⟨RX1, "beginGroup", "(I)Z"⟩
abbrev cX1_beginSet : ByteArray := prog_3_method_12_code
def yX1_beginSet : MethodName := ⟨RX1, "beginSet", "(I)Z"⟩
abbrev cX1_goOnInSet : ByteArray := prog_3_method_13_code
def yX1_goOnInSet : MethodName := ⟨RX1, "goOnInSet", "(I)Z"⟩
abbrev cX1_endGroup : ByteArray := prog_3_method_14_code
def yX1_endGroup : MethodName := ⟨RX1, "endGroup", "(I)Z"⟩
abbrev cX1_endAll : ByteArray := prog_3_method_15_code
def yX1_endAll : MethodName := ⟨RX1, "endAll", "(I)Z"⟩
abbrev cX1_tells : ByteArray := prog_3_method_16_code
def yX1_tells : MethodName := ⟨RX1, "tells", "(III)Z"⟩
abbrev cX1_isLetter : ByteArray := prog_3_method_17_code
def yX1_isLetter : MethodName := ⟨RX1, "isLetter", "(I)Z"⟩
def RX2 : String := "LoopEnvelopes$Judge"
def TX2 : u_T := fun k => match k with
  | 0 => ("LoopEnvelopes$Judge", "segments", "LLoopEnvelopes$Segments;", true)
  | 1 => ("LoopEnvelopes$Judge", "frames", "LLoopEnvelopes$Frames;", true)
  | 2 => ("LoopEnvelopes$Judge", "marks", "LLoopEnvelopes$Table;", true)
  | 3 => ("LoopEnvelopes$Judge", "first", "I", false)
  | _ => ("LoopEnvelopes$Judge", "end", "I", false)
def tyX2 : Nat → FieldType := fun k => match k with
  | 0 => .object "LoopEnvelopes$Segments"
  | 1 => .object "LoopEnvelopes$Frames"
  | 2 => .object "LoopEnvelopes$Table"
  | 3 => .int
  | _ => .int
abbrev wsX20 : List Cond := u_ws RX2 TX2 5
theorem nmX2 : ∀ a, a < 5 → ∀ b, b < 5 → a ≠ b → (TX2 a).2.1 ≠ (TX2 b).2.1 := by decide +kernel
theorem tyX2_ok : ∀ k, k < 5 → parseFieldDescriptor (TX2 k).2.2.1 = some (tyX2 k) := by decide +kernel
abbrev cX2_init : ByteArray := prog_4_method_1_code
def yX2_init : MethodName := ⟨RX2, "<init>", "(LLoopEnvelopes$Segments;LLoopEnvelopes$Frames;)V"⟩
abbrev cX2_isIll : ByteArray := prog_4_method_2_code
def yX2_isIll : MethodName := ⟨RX2, "isIll", "(I)Z"⟩
abbrev cX2_faultOf : ByteArray := prog_4_method_3_code
def yX2_faultOf : MethodName := ⟨RX2, "faultOf", "(I)I"⟩
abbrev cX2_depthOf : ByteArray := prog_4_method_4_code
def yX2_depthOf : MethodName := ⟨RX2, "depthOf", "(I)I"⟩
abbrev cX2_amountOf : ByteArray := prog_4_method_5_code
def yX2_amountOf : MethodName := ⟨RX2, "amountOf", "(I)I"⟩
abbrev cX2_lineSum : ByteArray := prog_4_method_6_code
def yX2_lineSum : MethodName := ⟨RX2, "lineSum", "(I)I"⟩
abbrev cX2_rightAmong : ByteArray := prog_4_method_7_code
def yX2_rightAmong : MethodName := ⟨RX2, "rightAmong", "(II)I"⟩
abbrev cX2_faulty : ByteArray := prog_4_method_8_code
def yX2_faulty : MethodName := ⟨RX2, "faulty", "(II)I"⟩
abbrev cX2_judgeSet : ByteArray := prog_4_method_9_code
def yX2_judgeSet : MethodName := ⟨RX2, "judgeSet", "(I)V"⟩
abbrev cX2_markForm : ByteArray := prog_4_method_10_code
def yX2_markForm : MethodName := ⟨RX2, "markForm", "(I)V"⟩
abbrev cX2_isWellFormed : ByteArray := prog_4_method_11_code
def yX2_isWellFormed : MethodName := ⟨RX2, "isWellFormed", "(II)Z"⟩
abbrev cX2_isLevelForm : ByteArray := prog_4_method_12_code
def yX2_isLevelForm : MethodName := ⟨RX2, "isLevelForm", "(I)Z"⟩
abbrev cX2_findFault : ByteArray := prog_4_method_13_code
def yX2_findFault : MethodName := ⟨RX2, "findFault", "(I)I"⟩
abbrev cX2_findDepth : ByteArray := prog_4_method_14_code
def yX2_findDepth : MethodName := ⟨RX2, "findDepth", "(II)I"⟩
abbrev cX2_belongs : ByteArray := prog_4_method_15_code
def yX2_belongs : MethodName := ⟨RX2, "belongs", "(I)Z"⟩
abbrev cX2_isOutOfOrder : ByteArray := prog_4_method_16_code
def yX2_isOutOfOrder : MethodName := ⟨RX2, "isOutOfOrder", "(II)Z"⟩
abbrev cX2_isWrongEnd : ByteArray := prog_4_method_17_code
def yX2_isWrongEnd : MethodName := ⟨RX2, "isWrongEnd", "(I)Z"⟩
abbrev cX2_isLevelUnlinked : ByteArray := prog_4_method_18_code
def yX2_isLevelUnlinked : MethodName := ⟨RX2, "isLevelUnlinked", "(I)Z"⟩
abbrev cX2_parentOf : ByteArray := prog_4_method_19_code
def yX2_parentOf : MethodName := ⟨RX2, "parentOf", "(I)I"⟩
abbrev cX2_isMoreWrong : ByteArray := prog_4_method_20_code
def yX2_isMoreWrong : MethodName := ⟨RX2, "isMoreWrong", "(I)Z"⟩
abbrev cX2_isClaimUnlinked : ByteArray := prog_4_method_21_code
def yX2_isClaimUnlinked : MethodName := ⟨RX2, "isClaimUnlinked", "(I)Z"⟩
abbrev cX2_isLineUnlinked : ByteArray := prog_4_method_22_code
def yX2_isLineUnlinked : MethodName := ⟨RX2, "isLineUnlinked", "(I)Z"⟩
def RX3 : String := "LoopEnvelopes$Segments"
def TX3 : u_T := fun k => match k with
  | 0 => ("LoopEnvelopes$Segments", "bytes", "LLoopEnvelopes$Bytes;", true)
  | 1 => ("LoopEnvelopes$Segments", "begins", "LLoopEnvelopes$Table;", true)
  | 2 => ("LoopEnvelopes$Segments", "names", "LLoopEnvelopes$Table;", true)
  | 3 => ("LoopEnvelopes$Segments", "elements", "LLoopEnvelopes$Table;", true)
  | _ => ("LoopEnvelopes$Segments", "held", "I", false)
def tyX3 : Nat → FieldType := fun k => match k with
  | 0 => .object "LoopEnvelopes$Bytes"
  | 1 => .object "LoopEnvelopes$Table"
  | 2 => .object "LoopEnvelopes$Table"
  | 3 => .object "LoopEnvelopes$Table"
  | _ => .int
abbrev wsX30 : List Cond := u_ws RX3 TX3 5
theorem nmX3 : ∀ a, a < 5 → ∀ b, b < 5 → a ≠ b → (TX3 a).2.1 ≠ (TX3 b).2.1 := by decide +kernel
theorem tyX3_ok : ∀ k, k < 5 → parseFieldDescriptor (TX3 k).2.2.1 = some (tyX3 k) := by decide +kernel
abbrev cX3_init : ByteArray := prog_5_method_1_code
def yX3_init : MethodName := ⟨RX3, "<init>", "()V"⟩
abbrev cX3_take : ByteArray := prog_5_method_2_code
def yX3_take : MethodName := ⟨RX3, "take", "(LLoopEnvelopes$Bytes;)V"⟩
abbrev cX3_length : ByteArray := prog_5_method_3_code
def yX3_length : MethodName := ⟨RX3, "length", "()I"⟩
abbrev cX3_held : ByteArray := prog_5_method_4_code
def yX3_held : MethodName := ⟨RX3, "held", "()I"⟩
abbrev cX3_splitter : ByteArray := prog_5_method_5_code
def yX3_splitter : MethodName := ⟨RX3, "splitter", "()I"⟩
abbrev cX3_closer : ByteArray := prog_5_method_6_code
def yX3_closer : MethodName := ⟨RX3, "closer", "()I"⟩
abbrev cX3_number : ByteArray := prog_5_method_7_code
def yX3_number : MethodName := ⟨RX3, "number", "()I"⟩
abbrev cX3_opens : ByteArray := prog_5_method_8_code
def yX3_opens : MethodName := ⟨RX3, "opens", "()Z"⟩
abbrev cX3_behindBreaks : ByteArray := prog_5_method_9_code
def yX3_behindBreaks : MethodName := ⟨RX3, "behindBreaks", "(I)I"⟩
abbrev cX3_closerFrom : ByteArray := prog_5_method_10_code
def yX3_closerFrom : MethodName := ⟨RX3, "closerFrom", "(I)I"⟩
abbrev cX3_keep : ByteArray := prog_5_method_11_code
def yX3_keep : MethodName := ⟨RX3, "keep", "(II)Z"⟩
abbrev cX3_nameOf : ByteArray := prog_5_method_12_code
def yX3_nameOf : MethodName := ⟨RX3, "nameOf", "(I)I"⟩
abbrev cX3_elementsOf : ByteArray := prog_5_method_13_code
def yX3_elementsOf : MethodName := ⟨RX3, "elementsOf", "(I)I"⟩
abbrev cX3_widthOf : ByteArray := prog_5_method_14_code
def yX3_widthOf : MethodName := ⟨RX3, "widthOf", "(II)I"⟩
abbrev cX3_byteIn : ByteArray := prog_5_method_15_code
def yX3_byteIn : MethodName := ⟨RX3, "byteIn", "(III)I"⟩
abbrev cX3_figures : ByteArray := prog_5_method_16_code
def yX3_figures : MethodName := ⟨RX3, "figures", "(III)I"⟩
abbrev cX3_isWord : ByteArray := prog_5_method_17_code
def yX3_isWord : MethodName := ⟨RX3, "isWord", "(II)Z"⟩
abbrev cX3_isCode : ByteArray := prog_5_method_18_code
def yX3_isCode : MethodName := ⟨RX3, "isCode", "(II)Z"⟩
abbrev cX3_amount : ByteArray := prog_5_method_19_code
def yX3_amount : MethodName := ⟨RX3, "amount", "(II)I"⟩
abbrev cX3_levelValue : ByteArray := prog_5_method_20_code
def yX3_levelValue : MethodName := ⟨RX3, "levelValue", "(II)I"⟩
abbrev cX3_tally : ByteArray := prog_5_method_21_code
def yX3_tally : MethodName := ⟨RX3, "tally", "(III)I"⟩
abbrev cX3_lastOf : ByteArray := prog_5_method_22_code
def yX3_lastOf : MethodName := ⟨RX3, "lastOf", "(III)I"⟩
abbrev cX3_nthOf : ByteArray := prog_5_method_23_code
def yX3_nthOf : MethodName := ⟨RX3, "nthOf", "(IIII)I"⟩
abbrev cX3_endOfRun : ByteArray := prog_5_method_24_code
def yX3_endOfRun : MethodName := ⟨RX3, "endOfRun", "(II)I"⟩
abbrev cX3_nameAt : ByteArray := prog_5_method_25_code
def yX3_nameAt : MethodName := ⟨RX3, "nameAt", "(II)I"⟩
abbrev cX3_numberAt : ByteArray := prog_5_method_26_code
def yX3_numberAt : MethodName := ⟨RX3, "numberAt", "(II)I"⟩
abbrev cX3_isBreak : ByteArray := prog_5_method_27_code
def yX3_isBreak : MethodName := ⟨RX3, "isBreak", "(I)Z"⟩
abbrev cX3_separates : ByteArray := prog_5_method_28_code
def yX3_separates : MethodName := ⟨RX3, "separates", "(I)Z"⟩
def RX4 : String := "LoopEnvelopes$Table"
def TX4 : u_T := fun k => match k with
  | 0 => ("LoopEnvelopes$Table", "rows", "I", true)
  | 1 => ("LoopEnvelopes$Table", "columns", "I", true)
  | _ => ("LoopEnvelopes$Table", "cells", "[I", true)
def tyX4 : Nat → FieldType := fun k => match k with
  | 0 => .int
  | 1 => .int
  | _ => .array .int
abbrev wsX40 : List Cond := u_ws RX4 TX4 3
theorem nmX4 : ∀ a, a < 3 → ∀ b, b < 3 → a ≠ b → (TX4 a).2.1 ≠ (TX4 b).2.1 := by decide +kernel
theorem tyX4_ok : ∀ k, k < 3 → parseFieldDescriptor (TX4 k).2.2.1 = some (tyX4 k) := by decide +kernel
abbrev cX4_init : ByteArray := prog_6_method_1_code
def yX4_init : MethodName := ⟨RX4, "<init>", "(II)V"⟩
abbrev cX4_at : ByteArray := prog_6_method_2_code
def yX4_at : MethodName := ⟨RX4, "at", "(II)I"⟩
abbrev cX4_put : ByteArray := prog_6_method_3_code
def yX4_put : MethodName := ⟨RX4, "put", "(III)V"⟩
def RX5 : String := "LoopEnvelopes$Writer"
def TX5 : u_T := fun k => match k with
  | 0 => ("LoopEnvelopes$Writer", "segments", "LLoopEnvelopes$Segments;", true)
  | 1 => ("LoopEnvelopes$Writer", "bytes", "LLoopEnvelopes$Bytes;", true)
  | _ => ("LoopEnvelopes$Writer", "over", "Z", false)
def tyX5 : Nat → FieldType := fun k => match k with
  | 0 => .object "LoopEnvelopes$Segments"
  | 1 => .object "LoopEnvelopes$Bytes"
  | _ => .boolean
abbrev wsX50 : List Cond := u_ws RX5 TX5 3
theorem nmX5 : ∀ a, a < 3 → ∀ b, b < 3 → a ≠ b → (TX5 a).2.1 ≠ (TX5 b).2.1 := by decide +kernel
theorem tyX5_ok : ∀ k, k < 3 → parseFieldDescriptor (TX5 k).2.2.1 = some (tyX5 k) := by decide +kernel
abbrev cX5_init : ByteArray := prog_7_method_1_code
def yX5_init : MethodName := ⟨RX5, "<init>", "(LLoopEnvelopes$Segments;)V"⟩
abbrev cX5_length : ByteArray := prog_7_method_2_code
def yX5_length : MethodName := ⟨RX5, "length", "()I"⟩
abbrev cX5_at : ByteArray := prog_7_method_3_code
def yX5_at : MethodName := ⟨RX5, "at", "(I)I"⟩
abbrev cX5_copyInto : ByteArray := prog_7_method_4_code
def yX5_copyInto : MethodName := ⟨RX5, "copyInto", "(LLoopEnvelopes$Bytes;)V"⟩
abbrev cX5_clear : ByteArray := prog_7_method_5_code
def yX5_clear : MethodName := ⟨RX5, "clear", "()V"⟩
abbrev cX5_finish : ByteArray := prog_7_method_6_code
def yX5_finish : MethodName := ⟨RX5, "finish", "()I"⟩
abbrev cX5_begin : ByteArray := prog_7_method_7_code
def yX5_begin : MethodName := ⟨RX5, "begin", "(I)V"⟩
abbrev cX5_element : ByteArray := prog_7_method_8_code
def yX5_element : MethodName := ⟨RX5, "element", "(II)V"⟩
abbrev cX5_letter : ByteArray := prog_7_method_9_code
def yX5_letter : MethodName := ⟨RX5, "letter", "(I)V"⟩
abbrev cX5_figure : ByteArray := prog_7_method_10_code
def yX5_figure : MethodName := ⟨RX5, "figure", "(I)V"⟩
abbrev cX5_close : ByteArray := prog_7_method_11_code
def yX5_close : MethodName := ⟨RX5, "close", "()V"⟩
abbrev cX5_add : ByteArray := prog_7_method_12_code
def yX5_add : MethodName := ⟨RX5, "add", "(I)V"⟩
def RX6 : String := "LoopEnvelopes"
def TX6 : u_T := fun k => match k with
  | 0 => ("LoopEnvelopes", "text", "LLoopEnvelopes$Bytes;", true)
  | 1 => ("LoopEnvelopes", "segments", "LLoopEnvelopes$Segments;", true)
  | 2 => ("LoopEnvelopes", "frames", "LLoopEnvelopes$Frames;", true)
  | 3 => ("LoopEnvelopes", "judge", "LLoopEnvelopes$Judge;", true)
  | 4 => ("LoopEnvelopes", "writer", "LLoopEnvelopes$Writer;", true)
  | 5 => ("LoopEnvelopes", "place", "I", false)
  | _ => ("LoopEnvelopes", "taken", "Z", false)
def tyX6 : Nat → FieldType := fun k => match k with
  | 0 => .object "LoopEnvelopes$Bytes"
  | 1 => .object "LoopEnvelopes$Segments"
  | 2 => .object "LoopEnvelopes$Frames"
  | 3 => .object "LoopEnvelopes$Judge"
  | 4 => .object "LoopEnvelopes$Writer"
  | 5 => .int
  | _ => .boolean
abbrev wsX60 : List Cond := u_ws RX6 TX6 7
theorem nmX6 : ∀ a, a < 7 → ∀ b, b < 7 → a ≠ b → (TX6 a).2.1 ≠ (TX6 b).2.1 := by decide +kernel
theorem tyX6_ok : ∀ k, k < 7 → parseFieldDescriptor (TX6 k).2.2.1 = some (tyX6 k) := by decide +kernel
abbrev cX6_init : ByteArray := prog_1_method_1_code
def yX6_init : MethodName := ⟨RX6, "<init>", "()V"⟩
abbrev cX6_feed : ByteArray := prog_1_method_2_code
def yX6_feed : MethodName := ⟨RX6, "feed", "(JI)I"⟩
abbrev cX6_set : ByteArray := prog_1_method_3_code
def yX6_set : MethodName := ⟨RX6, "set", "(II)I"⟩
abbrev cX6_cut : ByteArray := prog_1_method_4_code
def yX6_cut : MethodName := ⟨RX6, "cut", "(I)I"⟩
abbrev cX6_read : ByteArray := prog_1_method_5_code
def yX6_read : MethodName := ⟨RX6, "read", "()I"⟩
abbrev cX6_where : ByteArray := prog_1_method_6_code
def yX6_where : MethodName := ⟨RX6, "where", "()I"⟩
abbrev cX6_count : ByteArray := prog_1_method_7_code
def yX6_count : MethodName := ⟨RX6, "count", "(I)I"⟩
abbrev cX6_group : ByteArray := prog_1_method_8_code
def yX6_group : MethodName := ⟨RX6, "group", "(II)I"⟩
abbrev cX6_setOf : ByteArray := prog_1_method_9_code
def yX6_setOf : MethodName := ⟨RX6, "setOf", "(II)I"⟩
abbrev cX6_fault : ByteArray := prog_1_method_10_code
def yX6_fault : MethodName := ⟨RX6, "fault", "(III)I"⟩
abbrev cX6_level : ByteArray := prog_1_method_11_code
def yX6_level : MethodName := ⟨RX6, "level", "(III)I"⟩
abbrev cX6_claim : ByteArray := prog_1_method_12_code
def yX6_claim : MethodName := ⟨RX6, "claim", "(III)I"⟩
abbrev cX6_size : ByteArray := prog_1_method_13_code
def yX6_size : MethodName := ⟨RX6, "size", "(II)I"⟩
abbrev cX6_byteOf : ByteArray := prog_1_method_14_code
def yX6_byteOf : MethodName := ⟨RX6, "byteOf", "(III)I"⟩
abbrev cX6_answer : ByteArray := prog_1_method_15_code
def yX6_answer : MethodName := ⟨RX6, "answer", "()I"⟩
abbrev cX6_answered : ByteArray := prog_1_method_16_code
def yX6_answered : MethodName := ⟨RX6, "answered", "(I)I"⟩
abbrev cX6_turn : ByteArray := prog_1_method_17_code
def yX6_turn : MethodName := ⟨RX6, "turn", "()I"⟩
abbrev cX6_scan : ByteArray := prog_1_method_18_code
def yX6_scan : MethodName := ⟨RX6, "scan", "()I"⟩
abbrev cX6_tell : ByteArray := prog_1_method_19_code
def yX6_tell : MethodName := ⟨RX6, "tell", "(II)I"⟩
abbrev cX6_writeGroup : ByteArray := prog_1_method_20_code
def yX6_writeGroup : MethodName := ⟨RX6, "writeGroup", "(I)V"⟩
abbrev cX6_writeSet : ByteArray := prog_1_method_21_code
def yX6_writeSet : MethodName := ⟨RX6, "writeSet", "(I)V"⟩
def RX7 : String := "LoopEnvelopesModel"
def TX7 : u_T := fun k => match k with
  | 0 => ("LoopEnvelopesModel", "size", "I", false)
  | 1 => ("LoopEnvelopesModel", "text", "[I", true)
  | 2 => ("LoopEnvelopesModel", "isTaken", "Z", false)
  | 3 => ("LoopEnvelopesModel", "where", "I", false)
  | 4 => ("LoopEnvelopesModel", "e", "I", false)
  | 5 => ("LoopEnvelopesModel", "p", "I", false)
  | 6 => ("LoopEnvelopesModel", "s", "I", false)
  | 7 => ("LoopEnvelopesModel", "was", "[I", true)
  | 8 => ("LoopEnvelopesModel", "number", "I", false)
  | 9 => ("LoopEnvelopesModel", "segments", "I", false)
  | 10 => ("LoopEnvelopesModel", "nameOf", "[I", true)
  | 11 => ("LoopEnvelopesModel", "elements", "[I", true)
  | 12 => ("LoopEnvelopesModel", "from", "[I", true)
  | 13 => ("LoopEnvelopesModel", "long0", "[I", true)
  | 14 => ("LoopEnvelopesModel", "isIll", "[Z", true)
  | 15 => ("LoopEnvelopesModel", "fault", "[I", true)
  | 16 => ("LoopEnvelopesModel", "depth", "[I", true)
  | 17 => ("LoopEnvelopesModel", "groups", "I", false)
  | 18 => ("LoopEnvelopesModel", "groupSegment", "[I", true)
  | 19 => ("LoopEnvelopesModel", "groupFirst", "[I", true)
  | 20 => ("LoopEnvelopesModel", "groupSets", "[I", true)
  | 21 => ("LoopEnvelopesModel", "sets", "I", false)
  | 22 => ("LoopEnvelopesModel", "setGroup", "[I", true)
  | 23 => ("LoopEnvelopesModel", "setFirst", "[I", true)
  | 24 => ("LoopEnvelopesModel", "setMany", "[I", true)
  | 25 => ("LoopEnvelopesModel", "answered", "I", false)
  | 26 => ("LoopEnvelopesModel", "answer", "[I", true)
  | 27 => ("LoopEnvelopesModel", "isFull", "Z", false)
  | _ => ("LoopEnvelopesModel", "state", "I", false)
def tyX7 : Nat → FieldType := fun k => match k with
  | 0 => .int
  | 1 => .array .int
  | 2 => .boolean
  | 3 => .int
  | 4 => .int
  | 5 => .int
  | 6 => .int
  | 7 => .array .int
  | 8 => .int
  | 9 => .int
  | 10 => .array .int
  | 11 => .array .int
  | 12 => .array .int
  | 13 => .array .int
  | 14 => .array .boolean
  | 15 => .array .int
  | 16 => .array .int
  | 17 => .int
  | 18 => .array .int
  | 19 => .array .int
  | 20 => .array .int
  | 21 => .int
  | 22 => .array .int
  | 23 => .array .int
  | 24 => .array .int
  | 25 => .int
  | 26 => .array .int
  | 27 => .boolean
  | _ => .int
abbrev wsX70 : List Cond := u_ws RX7 TX7 29
theorem nmX7 : ∀ a, a < 29 → ∀ b, b < 29 → a ≠ b → (TX7 a).2.1 ≠ (TX7 b).2.1 := by decide +kernel
theorem tyX7_ok : ∀ k, k < 29 → parseFieldDescriptor (TX7 k).2.2.1 = some (tyX7 k) := by decide +kernel
abbrev cX7_init : ByteArray := prog_9_method_1_code
def yX7_init : MethodName := ⟨RX7, "<init>", "()V"⟩
abbrev cX7_in : ByteArray := prog_9_method_2_code
def yX7_in : MethodName := ⟨RX7, "in", "(III)Z"⟩
abbrev cX7_feed : ByteArray := prog_9_method_3_code
def yX7_feed : MethodName := ⟨RX7, "feed", "(JI)I"⟩
abbrev cX7_set : ByteArray := prog_9_method_4_code
def yX7_set : MethodName := ⟨RX7, "set", "(II)I"⟩
abbrev cX7_cut : ByteArray := prog_9_method_5_code
def yX7_cut : MethodName := ⟨RX7, "cut", "(I)I"⟩
abbrev cX7_isFigure : ByteArray := prog_9_method_6_code
def yX7_isFigure : MethodName := ⟨RX7, "isFigure", "(I)Z"⟩
abbrev cX7_isLetter : ByteArray := prog_9_method_7_code
def yX7_isLetter : MethodName := ⟨RX7, "isLetter", "(I)Z"⟩
abbrev cX7_isMark : ByteArray := prog_9_method_8_code
def yX7_isMark : MethodName := ⟨RX7, "isMark", "(I)Z"⟩
abbrev cX7_isEnd : ByteArray := prog_9_method_9_code
def yX7_isEnd : MethodName := ⟨RX7, "isEnd", "(I)Z"⟩
abbrev cX7_isOpening : ByteArray := prog_9_method_10_code
def yX7_isOpening : MethodName := ⟨RX7, "isOpening", "()Z"⟩
abbrev cX7_at : ByteArray := prog_9_method_11_code
def yX7_at : MethodName := ⟨RX7, "at", "(II)I"⟩
abbrev cX7_lengthOf : ByteArray := prog_9_method_12_code
def yX7_lengthOf : MethodName := ⟨RX7, "lengthOf", "(II)I"⟩
abbrev cX7_byteAt : ByteArray := prog_9_method_13_code
def yX7_byteAt : MethodName := ⟨RX7, "byteAt", "(III)I"⟩
abbrev cX7_isName : ByteArray := prog_9_method_14_code
def yX7_isName : MethodName := ⟨RX7, "isName", "(IIII)Z"⟩
abbrev cX7_findName : ByteArray := prog_9_method_15_code
def yX7_findName : MethodName := ⟨RX7, "findName", "(I)I"⟩
abbrev cX7_hasFigures : ByteArray := prog_9_method_16_code
def yX7_hasFigures : MethodName := ⟨RX7, "hasFigures", "(IIII)Z"⟩
abbrev cX7_numberOf : ByteArray := prog_9_method_17_code
def yX7_numberOf : MethodName := ⟨RX7, "numberOf", "(II)I"⟩
abbrev cX7_isAmount : ByteArray := prog_9_method_18_code
def yX7_isAmount : MethodName := ⟨RX7, "isAmount", "(II)Z"⟩
abbrev cX7_amountOf : ByteArray := prog_9_method_19_code
def yX7_amountOf : MethodName := ⟨RX7, "amountOf", "(II)I"⟩
abbrev cX7_isCode : ByteArray := prog_9_method_20_code
def yX7_isCode : MethodName := ⟨RX7, "isCode", "(II)Z"⟩
abbrev cX7_isWord : ByteArray := prog_9_method_21_code
def yX7_isWord : MethodName := ⟨RX7, "isWord", "(II)Z"⟩
abbrev cX7_isKind : ByteArray := prog_9_method_22_code
def yX7_isKind : MethodName := ⟨RX7, "isKind", "(II)Z"⟩
abbrev cX7_isMore : ByteArray := prog_9_method_23_code
def yX7_isMore : MethodName := ⟨RX7, "isMore", "(II)Z"⟩
abbrev cX7_isWell : ByteArray := prog_9_method_24_code
def yX7_isWell : MethodName := ⟨RX7, "isWell", "(I)Z"⟩
abbrev cX7_found : ByteArray := prog_9_method_25_code
def yX7_found : MethodName := ⟨RX7, "found", "(II)I"⟩
abbrev cX7_split : ByteArray := prog_9_method_26_code
def yX7_split : MethodName := ⟨RX7, "split", "(III)Z"⟩
abbrev cX7_isCount : ByteArray := prog_9_method_27_code
def yX7_isCount : MethodName := ⟨RX7, "isCount", "(II)Z"⟩
abbrev cX7_isNumber : ByteArray := prog_9_method_28_code
def yX7_isNumber : MethodName := ⟨RX7, "isNumber", "(II)Z"⟩
abbrev cX7_stands : ByteArray := prog_9_method_29_code
def yX7_stands : MethodName := ⟨RX7, "stands", "(I)Z"⟩
abbrev cX7_read : ByteArray := prog_9_method_30_code
def yX7_read : MethodName := ⟨RX7, "read", "()I"⟩
abbrev cX7_kindOf : ByteArray := prog_9_method_31_code
def yX7_kindOf : MethodName := ⟨RX7, "kindOf", "(I)I"⟩
abbrev cX7_isLoose : ByteArray := prog_9_method_32_code
def yX7_isLoose : MethodName := ⟨RX7, "isLoose", "(I)Z"⟩
abbrev cX7_ahead : ByteArray := prog_9_method_33_code
def yX7_ahead : MethodName := ⟨RX7, "ahead", "(III)I"⟩
abbrev cX7_many : ByteArray := prog_9_method_34_code
def yX7_many : MethodName := ⟨RX7, "many", "(III)I"⟩
abbrev cX7_levelBy : ByteArray := prog_9_method_35_code
def yX7_levelBy : MethodName := ⟨RX7, "levelBy", "(IIII)I"⟩
abbrev cX7_isOrder : ByteArray := prog_9_method_36_code
def yX7_isOrder : MethodName := ⟨RX7, "isOrder", "(II)Z"⟩
abbrev cX7_linesAhead : ByteArray := prog_9_method_37_code
def yX7_linesAhead : MethodName := ⟨RX7, "linesAhead", "(II)I"⟩
abbrev cX7_linesEnd : ByteArray := prog_9_method_38_code
def yX7_linesEnd : MethodName := ⟨RX7, "linesEnd", "(II)I"⟩
abbrev cX7_linesSum : ByteArray := prog_9_method_39_code
def yX7_linesSum : MethodName := ⟨RX7, "linesSum", "(II)I"⟩
abbrev cX7_isLinked : ByteArray := prog_9_method_40_code
def yX7_isLinked : MethodName := ⟨RX7, "isLinked", "(II)Z"⟩
abbrev cX7_hasUnder : ByteArray := prog_9_method_41_code
def yX7_hasUnder : MethodName := ⟨RX7, "hasUnder", "(II)Z"⟩
abbrev cX7_faultOf : ByteArray := prog_9_method_42_code
def yX7_faultOf : MethodName := ⟨RX7, "faultOf", "(III)I"⟩
abbrev cX7_judge : ByteArray := prog_9_method_43_code
def yX7_judge : MethodName := ⟨RX7, "judge", "(I)V"⟩
abbrev cX7_faults : ByteArray := prog_9_method_44_code
def yX7_faults : MethodName := ⟨RX7, "faults", "(I)I"⟩
abbrev cX7_where : ByteArray := prog_9_method_45_code
def yX7_where : MethodName := ⟨RX7, "where", "()I"⟩
abbrev cX7_right : ByteArray := prog_9_method_46_code
def yX7_right : MethodName := ⟨RX7, "right", "()I"⟩
abbrev cX7_count : ByteArray := prog_9_method_47_code
def yX7_count : MethodName := ⟨RX7, "count", "(I)I"⟩
abbrev cX7_group : ByteArray := prog_9_method_48_code
def yX7_group : MethodName := ⟨RX7, "group", "(II)I"⟩
abbrev cX7_setOf : ByteArray := prog_9_method_49_code
def yX7_setOf : MethodName := ⟨RX7, "setOf", "(II)I"⟩
abbrev cX7_pick : ByteArray := prog_9_method_50_code
def yX7_pick : MethodName := ⟨RX7, "pick", "(III)I"⟩
abbrev cX7_fault : ByteArray := prog_9_method_51_code
def yX7_fault : MethodName := ⟨RX7, "fault", "(III)I"⟩
abbrev cX7_level : ByteArray := prog_9_method_52_code
def yX7_level : MethodName := ⟨RX7, "level", "(III)I"⟩
abbrev cX7_claim : ByteArray := prog_9_method_53_code
def yX7_claim : MethodName := ⟨RX7, "claim", "(III)I"⟩
abbrev cX7_size : ByteArray := prog_9_method_54_code
def yX7_size : MethodName := ⟨RX7, "size", "(II)I"⟩
abbrev cX7_byteOf : ByteArray := prog_9_method_55_code
def yX7_byteOf : MethodName := ⟨RX7, "byteOf", "(III)I"⟩
abbrev cX7_write : ByteArray := prog_9_method_56_code
def yX7_write : MethodName := ⟨RX7, "write", "(I)V"⟩
abbrev cX7_write3 : ByteArray := prog_9_method_57_code
def yX7_write3 : MethodName := ⟨RX7, "write3", "(III)V"⟩
abbrev cX7_writeElement : ByteArray := prog_9_method_58_code
def yX7_writeElement : MethodName := ⟨RX7, "writeElement", "(II)V"⟩
abbrev cX7_writeNumber : ByteArray := prog_9_method_59_code
def yX7_writeNumber : MethodName := ⟨RX7, "writeNumber", "(I)V"⟩
abbrev cX7_writeSet : ByteArray := prog_9_method_60_code
def yX7_writeSet : MethodName := ⟨RX7, "writeSet", "(I)V"⟩
abbrev cX7_writeGroup : ByteArray := prog_9_method_61_code
def yX7_writeGroup : MethodName := ⟨RX7, "writeGroup", "(I)V"⟩
abbrev cX7_answer : ByteArray := prog_9_method_62_code
def yX7_answer : MethodName := ⟨RX7, "answer", "()I"⟩
abbrev cX7_answered : ByteArray := prog_9_method_63_code
def yX7_answered : MethodName := ⟨RX7, "answered", "(I)I"⟩
abbrev cX7_turn : ByteArray := prog_9_method_64_code
def yX7_turn : MethodName := ⟨RX7, "turn", "()I"⟩
def RL : String := "LoopEnvelopesLaw"
abbrev cL_law : ByteArray := code
def wsX0_init : List Cond := .code yX0_init cX0_init 2 none :: ([.methodLink RX0 3 objectInit, .instanceMethod objectInit, .code objectInit ⟨#[0xb1]⟩ 1 none, .methodLink RX0 9 Lib.Math.max.name, .static Lib.Math.max.name, .initialized "java/lang/Math", .code Lib.Math.max.name Lib.Math.max.code 2 (some .int), .arrayClass .byte, .fieldLink RX0 15 "LoopEnvelopes$Bytes" "cells" "[B", .fieldLink RX0 21 "LoopEnvelopes$Bytes" "used" "I"] ++ wsX00)
def wsX0_length : List Cond := .code yX0_length cX0_length 1 (some .int) :: ([.fieldLink RX0 21 "LoopEnvelopes$Bytes" "used" "I"] ++ wsX00)
def wsX0_at : List Cond := .code yX0_at cX0_at 2 (some .int) :: ([.fieldLink RX0 21 "LoopEnvelopes$Bytes" "used" "I", .fieldLink RX0 15 "LoopEnvelopes$Bytes" "cells" "[B"] ++ wsX00)
def wsX0_append : List Cond := .code yX0_append cX0_append 2 (some .boolean) :: ([.fieldLink RX0 21 "LoopEnvelopes$Bytes" "used" "I", .fieldLink RX0 15 "LoopEnvelopes$Bytes" "cells" "[B"] ++ wsX00)
def wsX0_shorten : List Cond := .code yX0_shorten cX0_shorten 2 none :: ([.fieldLink RX0 21 "LoopEnvelopes$Bytes" "used" "I", .methodLink RX0 25 Lib.Math.min.name, .static Lib.Math.min.name, .initialized "java/lang/Math", .code Lib.Math.min.name Lib.Math.min.code 2 (some .int), .methodLink RX0 9 Lib.Math.max.name, .static Lib.Math.max.name, .code Lib.Math.max.name Lib.Math.max.code 2 (some .int)] ++ wsX00)
def wsX0_become : List Cond := .code yX0_become cX0_become 3 none :: ([.fieldLink RX0 21 "LoopEnvelopes$Bytes" "used" "I", .methodLink RX0 28 yX0_at, .instanceMethod yX0_at, .selects RX0 yX0_at yX0_at, .initialized RX0, .code yX0_at cX0_at 2 (some .int), .fieldLink RX0 15 "LoopEnvelopes$Bytes" "cells" "[B", .methodLink RX0 32 yX0_append, .instanceMethod yX0_append, .selects RX0 yX0_append yX0_append, .code yX0_append cX0_append 2 (some .boolean)] ++ wsX00)
def wsX4_init : List Cond := .code yX4_init cX4_init 3 none :: ([.methodLink RX4 3 objectInit, .instanceMethod objectInit, .code objectInit ⟨#[0xb1]⟩ 1 none, .fieldLink RX4 9 "LoopEnvelopes$Table" "rows" "I", .fieldLink RX4 15 "LoopEnvelopes$Table" "columns" "I", .methodLink RX4 18 Lib.Math.max.name, .static Lib.Math.max.name, .initialized "java/lang/Math", .code Lib.Math.max.name Lib.Math.max.code 2 (some .int), .arrayClass .int, .fieldLink RX4 24 "LoopEnvelopes$Table" "cells" "[I"] ++ wsX40)
def wsX1_init : List Cond := .code yX1_init cX1_init 2 none :: ([.methodLink RX1 3 objectInit, .instanceMethod objectInit, .code objectInit ⟨#[0xb1]⟩ 1 none, .fieldLink RX1 9 "LoopEnvelopes$Frames" "segments" "LLoopEnvelopes$Segments;", .classLink RX1 15 RX4, .instantiable RX4 3, .initialized RX4, .fieldLink RX1 20 "LoopEnvelopes$Frames" "groups" "LLoopEnvelopes$Table;", .fieldLink RX1 24 "LoopEnvelopes$Frames" "sets" "LLoopEnvelopes$Table;", .fieldLink RX1 27 "LoopEnvelopes$Frames" "groupsHeld" "I", .fieldLink RX1 31 "LoopEnvelopes$Frames" "setsHeld" "I", .fieldLink RX1 34 "LoopEnvelopes$Frames" "stage" "I", .methodLink RX1 17 yX4_init, .instanceMethod yX4_init, .code yX4_init cX4_init 3 none, .methodLink RX4 3 objectInit, .fieldLink RX4 9 "LoopEnvelopes$Table" "rows" "I", .fieldLink RX4 15 "LoopEnvelopes$Table" "columns" "I", .methodLink RX4 18 Lib.Math.max.name, .static Lib.Math.max.name, .initialized "java/lang/Math", .code Lib.Math.max.name Lib.Math.max.code 2 (some .int), .arrayClass .int, .fieldLink RX4 24 "LoopEnvelopes$Table" "cells" "[I"] ++ wsX10 ++ wsX40)
def wsX1_clear : List Cond := .code yX1_clear cX1_clear 1 none :: ([.fieldLink RX1 27 "LoopEnvelopes$Frames" "groupsHeld" "I", .fieldLink RX1 31 "LoopEnvelopes$Frames" "setsHeld" "I", .fieldLink RX1 34 "LoopEnvelopes$Frames" "stage" "I"] ++ wsX10)
def wsX2_init : List Cond := .code yX2_init cX2_init 3 none :: ([.methodLink RX2 3 objectInit, .instanceMethod objectInit, .code objectInit ⟨#[0xb1]⟩ 1 none, .fieldLink RX2 9 "LoopEnvelopes$Judge" "segments" "LLoopEnvelopes$Segments;", .fieldLink RX2 15 "LoopEnvelopes$Judge" "frames" "LLoopEnvelopes$Frames;", .classLink RX2 19 RX4, .instantiable RX4 3, .initialized RX4, .fieldLink RX2 24 "LoopEnvelopes$Judge" "marks" "LLoopEnvelopes$Table;", .fieldLink RX2 28 "LoopEnvelopes$Judge" "first" "I", .fieldLink RX2 32 "LoopEnvelopes$Judge" "end" "I", .methodLink RX2 21 yX4_init, .instanceMethod yX4_init, .code yX4_init cX4_init 3 none, .methodLink RX4 3 objectInit, .fieldLink RX4 9 "LoopEnvelopes$Table" "rows" "I", .fieldLink RX4 15 "LoopEnvelopes$Table" "columns" "I", .methodLink RX4 18 Lib.Math.max.name, .static Lib.Math.max.name, .initialized "java/lang/Math", .code Lib.Math.max.name Lib.Math.max.code 2 (some .int), .arrayClass .int, .fieldLink RX4 24 "LoopEnvelopes$Table" "cells" "[I"] ++ wsX20 ++ wsX40)
def wsX3_init_r1 : List Cond := [Cond.methodLink RX3 3 objectInit, Cond.instanceMethod objectInit, Cond.code objectInit ⟨#[0xb1]⟩ 1 none, Cond.classLink RX3 9 RX0, Cond.instantiable RX0 2, Cond.initialized RX0, Cond.fieldLink RX3 14 "LoopEnvelopes$Segments" "bytes" "LLoopEnvelopes$Bytes;", Cond.classLink RX3 20 RX4, Cond.instantiable RX4 3, Cond.initialized RX4, Cond.fieldLink RX3 25 "LoopEnvelopes$Segments" "begins" "LLoopEnvelopes$Table;", Cond.fieldLink RX3 29 "LoopEnvelopes$Segments" "names" "LLoopEnvelopes$Table;", Cond.fieldLink RX3 32 "LoopEnvelopes$Segments" "elements" "LLoopEnvelopes$Table;", Cond.fieldLink RX3 35 "LoopEnvelopes$Segments" "held" "I", Cond.methodLink RX3 11 yX0_init, Cond.instanceMethod yX0_init, Cond.code yX0_init cX0_init 2 none, Cond.methodLink RX0 3 objectInit, Cond.methodLink RX0 9 Lib.Math.max.name, Cond.static Lib.Math.max.name, Cond.initialized "java/lang/Math", Cond.code Lib.Math.max.name Lib.Math.max.code 2 (some .int), Cond.arrayClass .byte, Cond.fieldLink RX0 15 "LoopEnvelopes$Bytes" "cells" "[B"]
def wsX3_init_r2 : List Cond := [Cond.fieldLink RX0 21 "LoopEnvelopes$Bytes" "used" "I", Cond.methodLink RX3 22 yX4_init, Cond.instanceMethod yX4_init, Cond.code yX4_init cX4_init 3 none, Cond.methodLink RX4 3 objectInit, Cond.fieldLink RX4 9 "LoopEnvelopes$Table" "rows" "I", Cond.fieldLink RX4 15 "LoopEnvelopes$Table" "columns" "I", Cond.methodLink RX4 18 Lib.Math.max.name, Cond.arrayClass .int, Cond.fieldLink RX4 24 "LoopEnvelopes$Table" "cells" "[I"]
def wsX3_init : List Cond := .code yX3_init cX3_init 1 none :: ((wsX3_init_r1 ++ wsX3_init_r2) ++ wsX00 ++ wsX30 ++ wsX40)
def wsX3_take : List Cond := .code yX3_take cX3_take 2 none :: ([.fieldLink RX3 14 "LoopEnvelopes$Segments" "bytes" "LLoopEnvelopes$Bytes;", .fieldLink RX3 35 "LoopEnvelopes$Segments" "held" "I", .methodLink RX3 39 yX0_become, .instanceMethod yX0_become, .selects RX0 yX0_become yX0_become, .initialized RX0, .code yX0_become cX0_become 3 none, .fieldLink RX0 21 "LoopEnvelopes$Bytes" "used" "I", .methodLink RX0 28 yX0_at, .instanceMethod yX0_at, .selects RX0 yX0_at yX0_at, .code yX0_at cX0_at 2 (some .int), .fieldLink RX0 15 "LoopEnvelopes$Bytes" "cells" "[B", .methodLink RX0 32 yX0_append, .instanceMethod yX0_append, .selects RX0 yX0_append yX0_append, .code yX0_append cX0_append 2 (some .boolean)] ++ wsX30 ++ wsX00)
def wsX3_splitter : List Cond := .code yX3_splitter cX3_splitter 1 (some .int) :: ([.fieldLink RX3 14 "LoopEnvelopes$Segments" "bytes" "LLoopEnvelopes$Bytes;", .methodLink RX3 47 yX0_at, .instanceMethod yX0_at, .selects RX0 yX0_at yX0_at, .initialized RX0, .code yX0_at cX0_at 2 (some .int), .fieldLink RX0 21 "LoopEnvelopes$Bytes" "used" "I", .fieldLink RX0 15 "LoopEnvelopes$Bytes" "cells" "[B"] ++ wsX30 ++ wsX00)
def wsX3_closer : List Cond := .code yX3_closer cX3_closer 1 (some .int) :: ([.fieldLink RX3 14 "LoopEnvelopes$Segments" "bytes" "LLoopEnvelopes$Bytes;", .methodLink RX3 47 yX0_at, .instanceMethod yX0_at, .selects RX0 yX0_at yX0_at, .initialized RX0, .code yX0_at cX0_at 2 (some .int), .fieldLink RX0 21 "LoopEnvelopes$Bytes" "used" "I", .fieldLink RX0 15 "LoopEnvelopes$Bytes" "cells" "[B"] ++ wsX30 ++ wsX00)
def wsX3_opens_r1 : List Cond := [Cond.fieldLink RX3 14 "LoopEnvelopes$Segments" "bytes" "LLoopEnvelopes$Bytes;", Cond.methodLink RX3 55 yX3_splitter, Cond.instanceMethod yX3_splitter, Cond.selects RX3 yX3_splitter yX3_splitter, Cond.initialized RX3, Cond.code yX3_splitter cX3_splitter 1 (some .int), Cond.methodLink RX3 47 yX0_at, Cond.instanceMethod yX0_at, Cond.selects RX0 yX0_at yX0_at, Cond.initialized RX0, Cond.code yX0_at cX0_at 2 (some .int), Cond.fieldLink RX0 21 "LoopEnvelopes$Bytes" "used" "I", Cond.fieldLink RX0 15 "LoopEnvelopes$Bytes" "cells" "[B", Cond.methodLink RX3 58 yX3_closer, Cond.instanceMethod yX3_closer, Cond.selects RX3 yX3_closer yX3_closer, Cond.code yX3_closer cX3_closer 1 (some .int), Cond.methodLink RX3 43 yX0_length, Cond.instanceMethod yX0_length, Cond.selects RX0 yX0_length yX0_length, Cond.code yX0_length cX0_length 1 (some .int), Cond.methodLink RX3 61 yX3_number, Cond.instanceMethod yX3_number, Cond.selects RX3 yX3_number yX3_number]
def wsX3_opens_r2 : List Cond := [Cond.code yX3_number cX3_number 1 (some .int), Cond.methodLink RX3 51 yX3_numberAt, Cond.instanceMethod yX3_numberAt, Cond.selects RX3 yX3_numberAt yX3_numberAt, Cond.code yX3_numberAt cX3_numberAt 6 (some .int), Cond.methodLink RX3 64 yX3_separates, Cond.static yX3_separates, Cond.code yX3_separates cX3_separates 4 (some .boolean), Cond.methodLink RX3 68 yX3_isBreak, Cond.static yX3_isBreak, Cond.code yX3_isBreak cX3_isBreak 1 (some .boolean)]
def wsX3_opens : List Cond := .code yX3_opens cX3_opens 4 (some .boolean) :: ((wsX3_opens_r1 ++ wsX3_opens_r2) ++ wsX30 ++ wsX00)
def wsX5_init : List Cond := .code yX5_init cX5_init 2 none :: ([.methodLink RX5 3 objectInit, .instanceMethod objectInit, .code objectInit ⟨#[0xb1]⟩ 1 none, .fieldLink RX5 9 "LoopEnvelopes$Writer" "segments" "LLoopEnvelopes$Segments;", .classLink RX5 15 RX0, .instantiable RX0 2, .initialized RX0, .fieldLink RX5 20 "LoopEnvelopes$Writer" "bytes" "LLoopEnvelopes$Bytes;", .fieldLink RX5 24 "LoopEnvelopes$Writer" "over" "Z", .methodLink RX5 17 yX0_init, .instanceMethod yX0_init, .code yX0_init cX0_init 2 none, .methodLink RX0 3 objectInit, .methodLink RX0 9 Lib.Math.max.name, .static Lib.Math.max.name, .initialized "java/lang/Math", .code Lib.Math.max.name Lib.Math.max.code 2 (some .int), .arrayClass .byte, .fieldLink RX0 15 "LoopEnvelopes$Bytes" "cells" "[B", .fieldLink RX0 21 "LoopEnvelopes$Bytes" "used" "I"] ++ wsX50 ++ wsX00)
def wsX5_length : List Cond := .code yX5_length cX5_length 1 (some .int) :: ([.fieldLink RX5 20 "LoopEnvelopes$Writer" "bytes" "LLoopEnvelopes$Bytes;", .methodLink RX5 28 yX0_length, .instanceMethod yX0_length, .selects RX0 yX0_length yX0_length, .initialized RX0, .code yX0_length cX0_length 1 (some .int), .fieldLink RX0 21 "LoopEnvelopes$Bytes" "used" "I"] ++ wsX50 ++ wsX00)
def wsX5_at : List Cond := .code yX5_at cX5_at 2 (some .int) :: ([.fieldLink RX5 20 "LoopEnvelopes$Writer" "bytes" "LLoopEnvelopes$Bytes;", .methodLink RX5 32 yX0_at, .instanceMethod yX0_at, .selects RX0 yX0_at yX0_at, .initialized RX0, .code yX0_at cX0_at 2 (some .int), .fieldLink RX0 21 "LoopEnvelopes$Bytes" "used" "I", .fieldLink RX0 15 "LoopEnvelopes$Bytes" "cells" "[B"] ++ wsX50 ++ wsX00)
def wsX6_init_r1 : List Cond := [Cond.methodLink RX6 3 objectInit, Cond.instanceMethod objectInit, Cond.code objectInit ⟨#[0xb1]⟩ 1 none, Cond.classLink RX6 9 RX0, Cond.instantiable RX0 2, Cond.initialized RX0, Cond.fieldLink RX6 14 "LoopEnvelopes" "text" "LLoopEnvelopes$Bytes;", Cond.classLink RX6 18 RX3, Cond.instantiable RX3 5, Cond.initialized RX3, Cond.fieldLink RX6 21 "LoopEnvelopes" "segments" "LLoopEnvelopes$Segments;", Cond.classLink RX6 25 RX1, Cond.instantiable RX1 6, Cond.initialized RX1, Cond.fieldLink RX6 30 "LoopEnvelopes" "frames" "LLoopEnvelopes$Frames;", Cond.classLink RX6 34 RX2, Cond.instantiable RX2 5, Cond.initialized RX2, Cond.fieldLink RX6 39 "LoopEnvelopes" "judge" "LLoopEnvelopes$Judge;", Cond.classLink RX6 43 RX5, Cond.instantiable RX5 3, Cond.initialized RX5, Cond.fieldLink RX6 46 "LoopEnvelopes" "writer" "LLoopEnvelopes$Writer;", Cond.fieldLink RX6 50 "LoopEnvelopes" "place" "I"]
def wsX6_init_r2 : List Cond := [Cond.fieldLink RX6 54 "LoopEnvelopes" "taken" "Z", Cond.methodLink RX6 11 yX0_init, Cond.instanceMethod yX0_init, Cond.code yX0_init cX0_init 2 none, Cond.methodLink RX0 3 objectInit, Cond.methodLink RX0 9 Lib.Math.max.name, Cond.static Lib.Math.max.name, Cond.initialized "java/lang/Math", Cond.code Lib.Math.max.name Lib.Math.max.code 2 (some .int), Cond.arrayClass .byte, Cond.fieldLink RX0 15 "LoopEnvelopes$Bytes" "cells" "[B", Cond.fieldLink RX0 21 "LoopEnvelopes$Bytes" "used" "I", Cond.methodLink RX6 20 yX3_init, Cond.instanceMethod yX3_init, Cond.code yX3_init cX3_init 1 none, Cond.methodLink RX3 3 objectInit, Cond.classLink RX3 9 RX0, Cond.fieldLink RX3 14 "LoopEnvelopes$Segments" "bytes" "LLoopEnvelopes$Bytes;", Cond.classLink RX3 20 RX4, Cond.instantiable RX4 3, Cond.initialized RX4, Cond.fieldLink RX3 25 "LoopEnvelopes$Segments" "begins" "LLoopEnvelopes$Table;", Cond.fieldLink RX3 29 "LoopEnvelopes$Segments" "names" "LLoopEnvelopes$Table;", Cond.fieldLink RX3 32 "LoopEnvelopes$Segments" "elements" "LLoopEnvelopes$Table;"]
def wsX6_init_r3 : List Cond := [Cond.fieldLink RX3 35 "LoopEnvelopes$Segments" "held" "I", Cond.methodLink RX3 11 yX0_init, Cond.methodLink RX3 22 yX4_init, Cond.instanceMethod yX4_init, Cond.code yX4_init cX4_init 3 none, Cond.methodLink RX4 3 objectInit, Cond.fieldLink RX4 9 "LoopEnvelopes$Table" "rows" "I", Cond.fieldLink RX4 15 "LoopEnvelopes$Table" "columns" "I", Cond.methodLink RX4 18 Lib.Math.max.name, Cond.arrayClass .int, Cond.fieldLink RX4 24 "LoopEnvelopes$Table" "cells" "[I", Cond.methodLink RX6 27 yX1_init, Cond.instanceMethod yX1_init, Cond.code yX1_init cX1_init 2 none, Cond.methodLink RX1 3 objectInit, Cond.fieldLink RX1 9 "LoopEnvelopes$Frames" "segments" "LLoopEnvelopes$Segments;", Cond.classLink RX1 15 RX4, Cond.fieldLink RX1 20 "LoopEnvelopes$Frames" "groups" "LLoopEnvelopes$Table;", Cond.fieldLink RX1 24 "LoopEnvelopes$Frames" "sets" "LLoopEnvelopes$Table;", Cond.fieldLink RX1 27 "LoopEnvelopes$Frames" "groupsHeld" "I", Cond.fieldLink RX1 31 "LoopEnvelopes$Frames" "setsHeld" "I", Cond.fieldLink RX1 34 "LoopEnvelopes$Frames" "stage" "I", Cond.methodLink RX1 17 yX4_init, Cond.methodLink RX6 36 yX2_init]
def wsX6_init_r4 : List Cond := [Cond.instanceMethod yX2_init, Cond.code yX2_init cX2_init 3 none, Cond.methodLink RX2 3 objectInit, Cond.fieldLink RX2 9 "LoopEnvelopes$Judge" "segments" "LLoopEnvelopes$Segments;", Cond.fieldLink RX2 15 "LoopEnvelopes$Judge" "frames" "LLoopEnvelopes$Frames;", Cond.classLink RX2 19 RX4, Cond.fieldLink RX2 24 "LoopEnvelopes$Judge" "marks" "LLoopEnvelopes$Table;", Cond.fieldLink RX2 28 "LoopEnvelopes$Judge" "first" "I", Cond.fieldLink RX2 32 "LoopEnvelopes$Judge" "end" "I", Cond.methodLink RX2 21 yX4_init, Cond.methodLink RX6 45 yX5_init, Cond.instanceMethod yX5_init, Cond.code yX5_init cX5_init 2 none, Cond.methodLink RX5 3 objectInit, Cond.fieldLink RX5 9 "LoopEnvelopes$Writer" "segments" "LLoopEnvelopes$Segments;", Cond.classLink RX5 15 RX0, Cond.fieldLink RX5 20 "LoopEnvelopes$Writer" "bytes" "LLoopEnvelopes$Bytes;", Cond.fieldLink RX5 24 "LoopEnvelopes$Writer" "over" "Z", Cond.methodLink RX5 17 yX0_init]
def wsX6_init : List Cond := .code yX6_init cX6_init 1 none :: ((wsX6_init_r1 ++ (wsX6_init_r2 ++ (wsX6_init_r3 ++ wsX6_init_r4))) ++ wsX00 ++ wsX60 ++ wsX30 ++ wsX10 ++ wsX20 ++ wsX50 ++ wsX40)
def wsX6_feed : List Cond := .code yX6_feed cX6_feed 5 (some .int) :: ([.fieldLink RX6 14 "LoopEnvelopes" "text" "LLoopEnvelopes$Bytes;", .constantLong RX6 62 (255), .methodLink RX6 58 yX0_length, .instanceMethod yX0_length, .selects RX0 yX0_length yX0_length, .initialized RX0, .code yX0_length cX0_length 1 (some .int), .fieldLink RX0 21 "LoopEnvelopes$Bytes" "used" "I", .methodLink RX6 64 yX0_append, .instanceMethod yX0_append, .selects RX0 yX0_append yX0_append, .code yX0_append cX0_append 2 (some .boolean), .fieldLink RX0 15 "LoopEnvelopes$Bytes" "cells" "[B"] ++ wsX60 ++ wsX00)
def wsX6_set : List Cond := .code yX6_set cX6_set 4 (some .int) :: ([.fieldLink RX6 14 "LoopEnvelopes" "text" "LLoopEnvelopes$Bytes;", .methodLink RX6 58 yX0_length, .instanceMethod yX0_length, .selects RX0 yX0_length yX0_length, .initialized RX0, .code yX0_length cX0_length 1 (some .int), .fieldLink RX0 21 "LoopEnvelopes$Bytes" "used" "I", .methodLink RX6 68 yX0_at, .instanceMethod yX0_at, .selects RX0 yX0_at yX0_at, .code yX0_at cX0_at 2 (some .int), .fieldLink RX0 15 "LoopEnvelopes$Bytes" "cells" "[B", .methodLink RX6 72 yX0_put, .instanceMethod yX0_put, .selects RX0 yX0_put yX0_put, .code yX0_put cX0_put 3 none] ++ wsX60 ++ wsX00)
def wsX6_cut : List Cond := .code yX6_cut cX6_cut 3 (some .int) :: ([.fieldLink RX6 14 "LoopEnvelopes" "text" "LLoopEnvelopes$Bytes;", .methodLink RX6 58 yX0_length, .instanceMethod yX0_length, .selects RX0 yX0_length yX0_length, .initialized RX0, .code yX0_length cX0_length 1 (some .int), .fieldLink RX0 21 "LoopEnvelopes$Bytes" "used" "I", .methodLink RX6 76 yX0_shorten, .instanceMethod yX0_shorten, .selects RX0 yX0_shorten yX0_shorten, .code yX0_shorten cX0_shorten 2 none, .methodLink RX0 25 Lib.Math.min.name, .static Lib.Math.min.name, .initialized "java/lang/Math", .code Lib.Math.min.name Lib.Math.min.code 2 (some .int), .methodLink RX0 9 Lib.Math.max.name, .static Lib.Math.max.name, .code Lib.Math.max.name Lib.Math.max.code 2 (some .int)] ++ wsX60 ++ wsX00)
def wsX6_tell : List Cond := .code yX6_tell cX6_tell 3 (some .int) :: ([.fieldLink RX6 50 "LoopEnvelopes" "place" "I"] ++ wsX60)
def wsX6_read_r1 : List Cond := [Cond.fieldLink RX6 21 "LoopEnvelopes" "segments" "LLoopEnvelopes$Segments;", Cond.fieldLink RX6 14 "LoopEnvelopes" "text" "LLoopEnvelopes$Bytes;", Cond.fieldLink RX6 30 "LoopEnvelopes" "frames" "LLoopEnvelopes$Frames;", Cond.fieldLink RX6 50 "LoopEnvelopes" "place" "I", Cond.fieldLink RX6 54 "LoopEnvelopes" "taken" "Z", Cond.fieldLink RX6 39 "LoopEnvelopes" "judge" "LLoopEnvelopes$Judge;", Cond.methodLink RX6 79 yX3_take, Cond.instanceMethod yX3_take, Cond.selects RX3 yX3_take yX3_take, Cond.initialized RX3, Cond.code yX3_take cX3_take 2 none, Cond.fieldLink RX3 14 "LoopEnvelopes$Segments" "bytes" "LLoopEnvelopes$Bytes;", Cond.fieldLink RX3 35 "LoopEnvelopes$Segments" "held" "I", Cond.methodLink RX3 39 yX0_become, Cond.instanceMethod yX0_become, Cond.selects RX0 yX0_become yX0_become, Cond.initialized RX0, Cond.code yX0_become cX0_become 3 none, Cond.fieldLink RX0 21 "LoopEnvelopes$Bytes" "used" "I", Cond.methodLink RX0 28 yX0_at, Cond.instanceMethod yX0_at, Cond.selects RX0 yX0_at yX0_at, Cond.code yX0_at cX0_at 2 (some .int), Cond.fieldLink RX0 15 "LoopEnvelopes$Bytes" "cells" "[B"]
def wsX6_read_r2 : List Cond := [Cond.methodLink RX0 32 yX0_append, Cond.instanceMethod yX0_append, Cond.selects RX0 yX0_append yX0_append, Cond.code yX0_append cX0_append 2 (some .boolean), Cond.methodLink RX6 83 yX1_clear, Cond.instanceMethod yX1_clear, Cond.selects RX1 yX1_clear yX1_clear, Cond.initialized RX1, Cond.code yX1_clear cX1_clear 1 none, Cond.fieldLink RX1 27 "LoopEnvelopes$Frames" "groupsHeld" "I", Cond.fieldLink RX1 31 "LoopEnvelopes$Frames" "setsHeld" "I", Cond.fieldLink RX1 34 "LoopEnvelopes$Frames" "stage" "I", Cond.methodLink RX6 86 yX3_opens, Cond.instanceMethod yX3_opens, Cond.selects RX3 yX3_opens yX3_opens, Cond.code yX3_opens cX3_opens 4 (some .boolean), Cond.methodLink RX3 55 yX3_splitter, Cond.instanceMethod yX3_splitter, Cond.selects RX3 yX3_splitter yX3_splitter, Cond.code yX3_splitter cX3_splitter 1 (some .int), Cond.methodLink RX3 47 yX0_at, Cond.methodLink RX3 58 yX3_closer, Cond.instanceMethod yX3_closer, Cond.selects RX3 yX3_closer yX3_closer]
def wsX6_read_r3 : List Cond := [Cond.code yX3_closer cX3_closer 1 (some .int), Cond.methodLink RX3 43 yX0_length, Cond.instanceMethod yX0_length, Cond.selects RX0 yX0_length yX0_length, Cond.code yX0_length cX0_length 1 (some .int), Cond.methodLink RX3 61 yX3_number, Cond.instanceMethod yX3_number, Cond.selects RX3 yX3_number yX3_number, Cond.code yX3_number cX3_number 1 (some .int), Cond.methodLink RX3 51 yX3_numberAt, Cond.instanceMethod yX3_numberAt, Cond.selects RX3 yX3_numberAt yX3_numberAt, Cond.code yX3_numberAt cX3_numberAt 6 (some .int), Cond.methodLink RX3 64 yX3_separates, Cond.static yX3_separates, Cond.code yX3_separates cX3_separates 4 (some .boolean), Cond.methodLink RX3 68 yX3_isBreak, Cond.static yX3_isBreak, Cond.code yX3_isBreak cX3_isBreak 1 (some .boolean), Cond.methodLink RX6 90 yX6_scan, Cond.instanceMethod yX6_scan, Cond.selects RX6 yX6_scan yX6_scan, Cond.initialized RX6, Cond.code yX6_scan cX6_scan 4 (some .int)]
def wsX6_read_r4 : List Cond := [Cond.methodLink RX6 173 yX3_behindBreaks, Cond.instanceMethod yX3_behindBreaks, Cond.selects RX3 yX3_behindBreaks yX3_behindBreaks, Cond.code yX3_behindBreaks cX3_behindBreaks 3 (some .int), Cond.methodLink RX6 176 yX1_areClosed, Cond.instanceMethod yX1_areClosed, Cond.selects RX1 yX1_areClosed yX1_areClosed, Cond.code yX1_areClosed cX1_areClosed 1 (some .boolean), Cond.methodLink RX6 179 yX3_length, Cond.instanceMethod yX3_length, Cond.selects RX3 yX3_length yX3_length, Cond.code yX3_length cX3_length 1 (some .int), Cond.methodLink RX6 93 yX6_tell, Cond.instanceMethod yX6_tell, Cond.selects RX6 yX6_tell yX6_tell, Cond.code yX6_tell cX6_tell 3 (some .int), Cond.methodLink RX6 180 yX3_closerFrom, Cond.instanceMethod yX3_closerFrom, Cond.selects RX3 yX3_closerFrom yX3_closerFrom, Cond.code yX3_closerFrom cX3_closerFrom 3 (some .int), Cond.methodLink RX6 183 yX3_keep, Cond.instanceMethod yX3_keep, Cond.selects RX3 yX3_keep yX3_keep, Cond.code yX3_keep cX3_keep 6 (some .boolean)]
def wsX6_read_r5 : List Cond := [Cond.fieldLink RX3 25 "LoopEnvelopes$Segments" "begins" "LLoopEnvelopes$Table;", Cond.fieldLink RX3 32 "LoopEnvelopes$Segments" "elements" "LLoopEnvelopes$Table;", Cond.fieldLink RX3 29 "LoopEnvelopes$Segments" "names" "LLoopEnvelopes$Table;", Cond.methodLink RX3 71 yX4_put, Cond.instanceMethod yX4_put, Cond.selects RX4 yX4_put yX4_put, Cond.initialized RX4, Cond.code yX4_put cX4_put 5 none, Cond.fieldLink RX4 9 "LoopEnvelopes$Table" "rows" "I", Cond.fieldLink RX4 15 "LoopEnvelopes$Table" "columns" "I", Cond.fieldLink RX4 24 "LoopEnvelopes$Table" "cells" "[I", Cond.methodLink RX3 75 yX3_widthOf, Cond.instanceMethod yX3_widthOf, Cond.selects RX3 yX3_widthOf yX3_widthOf, Cond.code yX3_widthOf cX3_widthOf 3 (some .int), Cond.methodLink RX3 81 yX4_at, Cond.instanceMethod yX4_at, Cond.selects RX4 yX4_at yX4_at, Cond.code yX4_at cX4_at 4 (some .int), Cond.methodLink RX3 78 yX3_nameAt, Cond.instanceMethod yX3_nameAt, Cond.selects RX3 yX3_nameAt yX3_nameAt, Cond.code yX3_nameAt cX3_nameAt 3 (some .int), Cond.methodLink RX6 187 yX1_admit]
def wsX6_read_r6 : List Cond := [Cond.instanceMethod yX1_admit, Cond.selects RX1 yX1_admit yX1_admit, Cond.code yX1_admit cX1_admit 3 (some .boolean), Cond.fieldLink RX1 9 "LoopEnvelopes$Frames" "segments" "LLoopEnvelopes$Segments;", Cond.constant RX1 55 (4674128), Cond.constant RX1 60 (4410451), Cond.constant RX1 64 (5457236), Cond.constant RX1 68 (4670798), Cond.methodLink RX1 51 yX3_nameOf, Cond.instanceMethod yX3_nameOf, Cond.selects RX3 yX3_nameOf yX3_nameOf, Cond.code yX3_nameOf cX3_nameOf 2 (some .int), Cond.methodLink RX1 56 yX1_beginGroup, Cond.instanceMethod yX1_beginGroup, Cond.selects RX1 yX1_beginGroup yX1_beginGroup, Cond.code yX1_beginGroup cX1_beginGroup 5 (some .boolean), Cond.fieldLink RX1 20 "LoopEnvelopes$Frames" "groups" "LLoopEnvelopes$Table;", Cond.methodLink RX1 75 yX3_byteIn, Cond.instanceMethod yX3_byteIn, Cond.selects RX3 yX3_byteIn yX3_byteIn, Cond.code yX3_byteIn cX3_byteIn 4 (some .int), Cond.methodLink RX1 79 yX3_figures, Cond.instanceMethod yX3_figures, Cond.selects RX3 yX3_figures yX3_figures]
def wsX6_read_r7 : List Cond := [Cond.code yX3_figures cX3_figures 5 (some .int), Cond.methodLink RX1 82 yX3_elementsOf, Cond.instanceMethod yX3_elementsOf, Cond.selects RX3 yX3_elementsOf yX3_elementsOf, Cond.code yX3_elementsOf cX3_elementsOf 2 (some .int), Cond.methodLink RX1 85 yX3_widthOf, Cond.methodLink RX1 88 yX1_isLetter, Cond.static yX1_isLetter, Cond.code yX1_isLetter cX1_isLetter 1 (some .boolean), Cond.methodLink RX1 41 yX4_put, Cond.methodLink RX1 61 yX1_endAll, Cond.instanceMethod yX1_endAll, Cond.selects RX1 yX1_endAll yX1_endAll, Cond.code yX1_endAll cX1_endAll 2 (some .boolean), Cond.methodLink RX1 96 yX3_number, Cond.methodLink RX1 92 yX1_tells, Cond.instanceMethod yX1_tells, Cond.selects RX1 yX1_tells yX1_tells, Cond.code yX1_tells cX1_tells 4 (some .boolean), Cond.methodLink RX1 65 yX1_beginSet, Cond.instanceMethod yX1_beginSet, Cond.selects RX1 yX1_beginSet yX1_beginSet, Cond.code yX1_beginSet cX1_beginSet 3 (some .boolean), Cond.fieldLink RX1 24 "LoopEnvelopes$Frames" "sets" "LLoopEnvelopes$Table;"]
def wsX6_read_r8 : List Cond := [Cond.methodLink RX1 37 yX4_at, Cond.methodLink RX1 69 yX1_endGroup, Cond.instanceMethod yX1_endGroup, Cond.selects RX1 yX1_endGroup yX1_endGroup, Cond.code yX1_endGroup cX1_endGroup 3 (some .boolean), Cond.methodLink RX1 72 yX1_goOnInSet, Cond.instanceMethod yX1_goOnInSet, Cond.selects RX1 yX1_goOnInSet yX1_goOnInSet, Cond.code yX1_goOnInSet cX1_goOnInSet 3 (some .boolean), Cond.constant RX1 91 (4542020), Cond.methodLink RX6 97 yX1_setsHeld, Cond.instanceMethod yX1_setsHeld, Cond.selects RX1 yX1_setsHeld yX1_setsHeld, Cond.code yX1_setsHeld cX1_setsHeld 1 (some .int), Cond.methodLink RX6 100 yX2_judgeSet, Cond.instanceMethod yX2_judgeSet, Cond.selects RX2 yX2_judgeSet yX2_judgeSet, Cond.initialized RX2, Cond.code yX2_judgeSet cX2_judgeSet 6 none, Cond.fieldLink RX2 15 "LoopEnvelopes$Judge" "frames" "LLoopEnvelopes$Frames;", Cond.fieldLink RX2 28 "LoopEnvelopes$Judge" "first" "I", Cond.fieldLink RX2 32 "LoopEnvelopes$Judge" "end" "I", Cond.fieldLink RX2 24 "LoopEnvelopes$Judge" "marks" "LLoopEnvelopes$Table;", Cond.fieldLink RX2 9 "LoopEnvelopes$Judge" "segments" "LLoopEnvelopes$Segments;"]
def wsX6_read_r9 : List Cond := [Cond.constant RX2 78 (4410445), Cond.constant RX2 79 (5002828), Cond.methodLink RX2 49 yX1_ofSet, Cond.instanceMethod yX1_ofSet, Cond.selects RX1 yX1_ofSet yX1_ofSet, Cond.code yX1_ofSet cX1_ofSet 3 (some .int), Cond.methodLink RX2 61 yX2_markForm, Cond.instanceMethod yX2_markForm, Cond.selects RX2 yX2_markForm yX2_markForm, Cond.code yX2_markForm cX2_markForm 5 none, Cond.constant RX2 39 (4999502), Cond.methodLink RX2 75 yX3_nameOf, Cond.methodLink RX2 87 yX2_isWellFormed, Cond.instanceMethod yX2_isWellFormed, Cond.selects RX2 yX2_isWellFormed yX2_isWellFormed, Cond.code yX2_isWellFormed cX2_isWellFormed 4 (some .boolean), Cond.constant RX2 110 (-10000000), Cond.methodLink RX2 91 yX3_elementsOf, Cond.methodLink RX2 97 yX3_widthOf, Cond.methodLink RX2 100 yX3_figures, Cond.methodLink RX2 103 yX2_isLevelForm, Cond.instanceMethod yX2_isLevelForm, Cond.selects RX2 yX2_isLevelForm yX2_isLevelForm, Cond.code yX2_isLevelForm cX2_isLevelForm 5 (some .boolean)]
def wsX6_read_r10 : List Cond := [Cond.methodLink RX2 107 yX3_isWord, Cond.instanceMethod yX3_isWord, Cond.selects RX3 yX3_isWord yX3_isWord, Cond.code yX3_isWord cX3_isWord 4 (some .boolean), Cond.methodLink RX2 94 yX3_amount, Cond.instanceMethod yX3_amount, Cond.selects RX3 yX3_amount yX3_amount, Cond.code yX3_amount cX3_amount 9 (some .int), Cond.constant RX3 95 (-10000000), Cond.methodLink RX3 88 yX3_byteIn, Cond.methodLink RX2 111 yX3_isCode, Cond.instanceMethod yX3_isCode, Cond.selects RX3 yX3_isCode yX3_isCode, Cond.code yX3_isCode cX3_isCode 7 (some .boolean), Cond.methodLink RX3 83 Lib.Math.max.name, Cond.static Lib.Math.max.name, Cond.initialized "java/lang/Math", Cond.code Lib.Math.max.name Lib.Math.max.code 2 (some .int), Cond.methodLink RX3 92 Lib.Math.min.name, Cond.static Lib.Math.min.name, Cond.code Lib.Math.min.name Lib.Math.min.code 2 (some .int), Cond.methodLink RX2 68 yX4_put, Cond.methodLink RX2 65 yX2_findFault, Cond.instanceMethod yX2_findFault]
def wsX6_read_r11 : List Cond := [Cond.selects RX2 yX2_findFault yX2_findFault, Cond.code yX2_findFault cX2_findFault 3 (some .int), Cond.constant RX2 123 (4542020), Cond.methodLink RX2 114 yX2_belongs, Cond.static yX2_belongs, Cond.code yX2_belongs cX2_belongs 1 (some .boolean), Cond.constant RX2 148 (5457236), Cond.constant RX2 149 (5128525), Cond.methodLink RX2 117 yX2_isOutOfOrder, Cond.instanceMethod yX2_isOutOfOrder, Cond.selects RX2 yX2_isOutOfOrder yX2_isOutOfOrder, Cond.code yX2_isOutOfOrder cX2_isOutOfOrder 4 (some .boolean), Cond.methodLink RX2 150 yX3_lastOf, Cond.instanceMethod yX3_lastOf, Cond.selects RX3 yX3_lastOf yX3_lastOf, Cond.code yX3_lastOf cX3_lastOf 5 (some .int), Cond.methodLink RX2 120 yX2_isIll, Cond.instanceMethod yX2_isIll, Cond.selects RX2 yX2_isIll yX2_isIll, Cond.code yX2_isIll cX2_isIll 2 (some .boolean), Cond.methodLink RX2 35 yX4_at, Cond.methodLink RX2 124 yX2_isWrongEnd, Cond.instanceMethod yX2_isWrongEnd, Cond.selects RX2 yX2_isWrongEnd yX2_isWrongEnd]
def wsX6_read_r12 : List Cond := [Cond.code yX2_isWrongEnd cX2_isWrongEnd 3 (some .boolean), Cond.methodLink RX2 127 yX2_isLevelUnlinked, Cond.instanceMethod yX2_isLevelUnlinked, Cond.selects RX2 yX2_isLevelUnlinked yX2_isLevelUnlinked, Cond.code yX2_isLevelUnlinked cX2_isLevelUnlinked 4 (some .boolean), Cond.methodLink RX2 80 yX3_tally, Cond.instanceMethod yX3_tally, Cond.selects RX3 yX3_tally yX3_tally, Cond.code yX3_tally cX3_tally 6 (some .int), Cond.methodLink RX2 142 yX2_parentOf, Cond.instanceMethod yX2_parentOf, Cond.selects RX2 yX2_parentOf yX2_parentOf, Cond.code yX2_parentOf cX2_parentOf 3 (some .int), Cond.methodLink RX2 153 yX3_nthOf, Cond.instanceMethod yX3_nthOf, Cond.selects RX3 yX3_nthOf yX3_nthOf, Cond.code yX3_nthOf cX3_nthOf 7 (some .int), Cond.methodLink RX2 145 yX2_depthOf, Cond.instanceMethod yX2_depthOf, Cond.selects RX2 yX2_depthOf yX2_depthOf, Cond.code yX2_depthOf cX2_depthOf 2 (some .int), Cond.methodLink RX2 130 yX2_isMoreWrong, Cond.instanceMethod yX2_isMoreWrong, Cond.selects RX2 yX2_isMoreWrong yX2_isMoreWrong]
def wsX6_read_r13 : List Cond := [Cond.code yX2_isMoreWrong cX2_isMoreWrong 5 (some .boolean), Cond.methodLink RX2 133 yX2_isClaimUnlinked, Cond.instanceMethod yX2_isClaimUnlinked, Cond.selects RX2 yX2_isClaimUnlinked yX2_isClaimUnlinked, Cond.code yX2_isClaimUnlinked cX2_isClaimUnlinked 5 (some .boolean), Cond.methodLink RX2 136 yX2_lineSum, Cond.instanceMethod yX2_lineSum, Cond.selects RX2 yX2_lineSum yX2_lineSum, Cond.code yX2_lineSum cX2_lineSum 5 (some .int), Cond.methodLink RX2 40 yX3_endOfRun, Cond.instanceMethod yX3_endOfRun, Cond.selects RX3 yX3_endOfRun yX3_endOfRun, Cond.code yX3_endOfRun cX3_endOfRun 4 (some .int), Cond.methodLink RX2 45 yX2_amountOf, Cond.instanceMethod yX2_amountOf, Cond.selects RX2 yX2_amountOf yX2_amountOf, Cond.code yX2_amountOf cX2_amountOf 2 (some .int), Cond.methodLink RX2 139 yX2_isLineUnlinked, Cond.instanceMethod yX2_isLineUnlinked, Cond.selects RX2 yX2_isLineUnlinked yX2_isLineUnlinked, Cond.code yX2_isLineUnlinked cX2_isLineUnlinked 3 (some .boolean), Cond.methodLink RX2 157 Lib.Math.max.name, Cond.methodLink RX2 72 yX2_findDepth, Cond.instanceMethod yX2_findDepth]
def wsX6_read_r14 : List Cond := [Cond.selects RX2 yX2_findDepth yX2_findDepth, Cond.code yX2_findDepth cX2_findDepth 3 (some .int), Cond.methodLink RX2 84 yX1_noteOfSet, Cond.instanceMethod yX1_noteOfSet, Cond.selects RX1 yX1_noteOfSet yX1_noteOfSet, Cond.code yX1_noteOfSet cX1_noteOfSet 4 none]
def wsX6_read : List Cond := .code yX6_read cX6_read 3 (some .int) :: ((wsX6_read_r1 ++ (wsX6_read_r2 ++ (wsX6_read_r3 ++ (wsX6_read_r4 ++ (wsX6_read_r5 ++ (wsX6_read_r6 ++ (wsX6_read_r7 ++ (wsX6_read_r8 ++ (wsX6_read_r9 ++ (wsX6_read_r10 ++ (wsX6_read_r11 ++ (wsX6_read_r12 ++ (wsX6_read_r13 ++ wsX6_read_r14))))))))))))) ++ wsX60 ++ wsX30 ++ wsX00 ++ wsX10 ++ wsX40 ++ wsX20)
def wsX6_where : List Cond := .code yX6_where cX6_where 1 (some .int) :: ([.fieldLink RX6 50 "LoopEnvelopes" "place" "I"] ++ wsX60)
def wsX6_count_r1 : List Cond := [Cond.fieldLink RX6 14 "LoopEnvelopes" "text" "LLoopEnvelopes$Bytes;", Cond.fieldLink RX6 46 "LoopEnvelopes" "writer" "LLoopEnvelopes$Writer;", Cond.fieldLink RX6 54 "LoopEnvelopes" "taken" "Z", Cond.fieldLink RX6 21 "LoopEnvelopes" "segments" "LLoopEnvelopes$Segments;", Cond.fieldLink RX6 30 "LoopEnvelopes" "frames" "LLoopEnvelopes$Frames;", Cond.fieldLink RX6 39 "LoopEnvelopes" "judge" "LLoopEnvelopes$Judge;", Cond.methodLink RX6 58 yX0_length, Cond.instanceMethod yX0_length, Cond.selects RX0 yX0_length yX0_length, Cond.initialized RX0, Cond.code yX0_length cX0_length 1 (some .int), Cond.fieldLink RX0 21 "LoopEnvelopes$Bytes" "used" "I", Cond.methodLink RX6 103 yX5_length, Cond.instanceMethod yX5_length, Cond.selects RX5 yX5_length yX5_length, Cond.initialized RX5, Cond.code yX5_length cX5_length 1 (some .int), Cond.fieldLink RX5 20 "LoopEnvelopes$Writer" "bytes" "LLoopEnvelopes$Bytes;", Cond.methodLink RX5 28 yX0_length, Cond.methodLink RX6 104 yX3_held, Cond.instanceMethod yX3_held, Cond.selects RX3 yX3_held yX3_held, Cond.initialized RX3, Cond.code yX3_held cX3_held 1 (some .int)]
def wsX6_count_r2 : List Cond := [Cond.fieldLink RX3 35 "LoopEnvelopes$Segments" "held" "I", Cond.methodLink RX6 107 yX1_groupsHeld, Cond.instanceMethod yX1_groupsHeld, Cond.selects RX1 yX1_groupsHeld yX1_groupsHeld, Cond.initialized RX1, Cond.code yX1_groupsHeld cX1_groupsHeld 1 (some .int), Cond.fieldLink RX1 27 "LoopEnvelopes$Frames" "groupsHeld" "I", Cond.methodLink RX6 97 yX1_setsHeld, Cond.instanceMethod yX1_setsHeld, Cond.selects RX1 yX1_setsHeld yX1_setsHeld, Cond.code yX1_setsHeld cX1_setsHeld 1 (some .int), Cond.fieldLink RX1 31 "LoopEnvelopes$Frames" "setsHeld" "I", Cond.methodLink RX6 110 yX2_rightAmong, Cond.instanceMethod yX2_rightAmong, Cond.selects RX2 yX2_rightAmong yX2_rightAmong, Cond.initialized RX2, Cond.code yX2_rightAmong cX2_rightAmong 5 (some .int), Cond.fieldLink RX2 15 "LoopEnvelopes$Judge" "frames" "LLoopEnvelopes$Frames;", Cond.methodLink RX2 49 yX1_ofSet, Cond.instanceMethod yX1_ofSet, Cond.selects RX1 yX1_ofSet yX1_ofSet, Cond.code yX1_ofSet cX1_ofSet 3 (some .int), Cond.fieldLink RX1 24 "LoopEnvelopes$Frames" "sets" "LLoopEnvelopes$Table;", Cond.methodLink RX1 37 yX4_at]
def wsX6_count_r3 : List Cond := [Cond.instanceMethod yX4_at, Cond.selects RX4 yX4_at yX4_at, Cond.initialized RX4, Cond.code yX4_at cX4_at 4 (some .int), Cond.fieldLink RX4 9 "LoopEnvelopes$Table" "rows" "I", Cond.fieldLink RX4 15 "LoopEnvelopes$Table" "columns" "I", Cond.fieldLink RX4 24 "LoopEnvelopes$Table" "cells" "[I", Cond.methodLink RX6 113 yX3_number, Cond.instanceMethod yX3_number, Cond.selects RX3 yX3_number yX3_number, Cond.code yX3_number cX3_number 1 (some .int), Cond.methodLink RX3 51 yX3_numberAt, Cond.instanceMethod yX3_numberAt, Cond.selects RX3 yX3_numberAt yX3_numberAt, Cond.code yX3_numberAt cX3_numberAt 6 (some .int), Cond.fieldLink RX3 14 "LoopEnvelopes$Segments" "bytes" "LLoopEnvelopes$Bytes;", Cond.methodLink RX3 47 yX0_at, Cond.instanceMethod yX0_at, Cond.selects RX0 yX0_at yX0_at, Cond.code yX0_at cX0_at 2 (some .int), Cond.fieldLink RX0 15 "LoopEnvelopes$Bytes" "cells" "[B"]
def wsX6_count : List Cond := .code yX6_count cX6_count 2 (some .int) :: ((wsX6_count_r1 ++ (wsX6_count_r2 ++ wsX6_count_r3)) ++ wsX60 ++ wsX00 ++ wsX50 ++ wsX30 ++ wsX10 ++ wsX20 ++ wsX40)
def wsX6_group : List Cond := .code yX6_group cX6_group 3 (some .int) :: ([.fieldLink RX6 54 "LoopEnvelopes" "taken" "Z", .fieldLink RX6 30 "LoopEnvelopes" "frames" "LLoopEnvelopes$Frames;", .methodLink RX6 107 yX1_groupsHeld, .instanceMethod yX1_groupsHeld, .selects RX1 yX1_groupsHeld yX1_groupsHeld, .initialized RX1, .code yX1_groupsHeld cX1_groupsHeld 1 (some .int), .fieldLink RX1 27 "LoopEnvelopes$Frames" "groupsHeld" "I", .methodLink RX6 116 yX1_ofGroup, .instanceMethod yX1_ofGroup, .selects RX1 yX1_ofGroup yX1_ofGroup, .code yX1_ofGroup cX1_ofGroup 3 (some .int), .fieldLink RX1 20 "LoopEnvelopes$Frames" "groups" "LLoopEnvelopes$Table;", .methodLink RX1 37 yX4_at, .instanceMethod yX4_at, .selects RX4 yX4_at yX4_at, .initialized RX4, .code yX4_at cX4_at 4 (some .int), .fieldLink RX4 9 "LoopEnvelopes$Table" "rows" "I", .fieldLink RX4 15 "LoopEnvelopes$Table" "columns" "I", .fieldLink RX4 24 "LoopEnvelopes$Table" "cells" "[I"] ++ wsX60 ++ wsX10 ++ wsX40)
def wsX6_setOf : List Cond := .code yX6_setOf cX6_setOf 3 (some .int) :: ([.fieldLink RX6 54 "LoopEnvelopes" "taken" "Z", .fieldLink RX6 30 "LoopEnvelopes" "frames" "LLoopEnvelopes$Frames;", .methodLink RX6 97 yX1_setsHeld, .instanceMethod yX1_setsHeld, .selects RX1 yX1_setsHeld yX1_setsHeld, .initialized RX1, .code yX1_setsHeld cX1_setsHeld 1 (some .int), .fieldLink RX1 31 "LoopEnvelopes$Frames" "setsHeld" "I", .methodLink RX6 119 yX1_ofSet, .instanceMethod yX1_ofSet, .selects RX1 yX1_ofSet yX1_ofSet, .code yX1_ofSet cX1_ofSet 3 (some .int), .fieldLink RX1 24 "LoopEnvelopes$Frames" "sets" "LLoopEnvelopes$Table;", .methodLink RX1 37 yX4_at, .instanceMethod yX4_at, .selects RX4 yX4_at yX4_at, .initialized RX4, .code yX4_at cX4_at 4 (some .int), .fieldLink RX4 9 "LoopEnvelopes$Table" "rows" "I", .fieldLink RX4 15 "LoopEnvelopes$Table" "columns" "I", .fieldLink RX4 24 "LoopEnvelopes$Table" "cells" "[I"] ++ wsX60 ++ wsX10 ++ wsX40)
def wsX6_fault_r1 : List Cond := [Cond.fieldLink RX6 54 "LoopEnvelopes" "taken" "Z", Cond.fieldLink RX6 39 "LoopEnvelopes" "judge" "LLoopEnvelopes$Judge;", Cond.fieldLink RX6 30 "LoopEnvelopes" "frames" "LLoopEnvelopes$Frames;", Cond.methodLink RX6 122 yX2_faulty, Cond.instanceMethod yX2_faulty, Cond.selects RX2 yX2_faulty yX2_faulty, Cond.initialized RX2, Cond.code yX2_faulty cX2_faulty 6 (some .int), Cond.fieldLink RX2 15 "LoopEnvelopes$Judge" "frames" "LLoopEnvelopes$Frames;", Cond.methodLink RX2 54 yX1_setsHeld, Cond.instanceMethod yX1_setsHeld, Cond.selects RX1 yX1_setsHeld yX1_setsHeld, Cond.initialized RX1, Cond.code yX1_setsHeld cX1_setsHeld 1 (some .int), Cond.fieldLink RX1 31 "LoopEnvelopes$Frames" "setsHeld" "I", Cond.methodLink RX2 49 yX1_ofSet, Cond.instanceMethod yX1_ofSet, Cond.selects RX1 yX1_ofSet yX1_ofSet, Cond.code yX1_ofSet cX1_ofSet 3 (some .int), Cond.fieldLink RX1 24 "LoopEnvelopes$Frames" "sets" "LLoopEnvelopes$Table;", Cond.methodLink RX1 37 yX4_at, Cond.instanceMethod yX4_at, Cond.selects RX4 yX4_at yX4_at, Cond.initialized RX4]
def wsX6_fault_r2 : List Cond := [Cond.code yX4_at cX4_at 4 (some .int), Cond.fieldLink RX4 9 "LoopEnvelopes$Table" "rows" "I", Cond.fieldLink RX4 15 "LoopEnvelopes$Table" "columns" "I", Cond.fieldLink RX4 24 "LoopEnvelopes$Table" "cells" "[I", Cond.methodLink RX2 58 yX2_faultOf, Cond.instanceMethod yX2_faultOf, Cond.selects RX2 yX2_faultOf yX2_faultOf, Cond.code yX2_faultOf cX2_faultOf 2 (some .int), Cond.fieldLink RX2 24 "LoopEnvelopes$Judge" "marks" "LLoopEnvelopes$Table;", Cond.methodLink RX2 35 yX4_at, Cond.methodLink RX6 119 yX1_ofSet, Cond.methodLink RX6 125 yX2_faultOf]
def wsX6_fault : List Cond := .code yX6_fault cX6_fault 5 (some .int) :: ((wsX6_fault_r1 ++ wsX6_fault_r2) ++ wsX60 ++ wsX20 ++ wsX10 ++ wsX40)
def wsX6_level_r1 : List Cond := [Cond.fieldLink RX6 54 "LoopEnvelopes" "taken" "Z", Cond.fieldLink RX6 30 "LoopEnvelopes" "frames" "LLoopEnvelopes$Frames;", Cond.constant RX6 128 (5002828), Cond.fieldLink RX6 39 "LoopEnvelopes" "judge" "LLoopEnvelopes$Judge;", Cond.fieldLink RX6 21 "LoopEnvelopes" "segments" "LLoopEnvelopes$Segments;", Cond.methodLink RX6 129 yX1_nthInSet, Cond.instanceMethod yX1_nthInSet, Cond.selects RX1 yX1_nthInSet yX1_nthInSet, Cond.initialized RX1, Cond.code yX1_nthInSet cX1_nthInSet 5 (some .int), Cond.fieldLink RX1 31 "LoopEnvelopes$Frames" "setsHeld" "I", Cond.fieldLink RX1 24 "LoopEnvelopes$Frames" "sets" "LLoopEnvelopes$Table;", Cond.fieldLink RX1 9 "LoopEnvelopes$Frames" "segments" "LLoopEnvelopes$Segments;", Cond.methodLink RX1 37 yX4_at, Cond.instanceMethod yX4_at, Cond.selects RX4 yX4_at yX4_at, Cond.initialized RX4, Cond.code yX4_at cX4_at 4 (some .int), Cond.fieldLink RX4 9 "LoopEnvelopes$Table" "rows" "I", Cond.fieldLink RX4 15 "LoopEnvelopes$Table" "columns" "I", Cond.fieldLink RX4 24 "LoopEnvelopes$Table" "cells" "[I", Cond.methodLink RX1 45 yX3_nthOf, Cond.instanceMethod yX3_nthOf, Cond.selects RX3 yX3_nthOf yX3_nthOf]
def wsX6_level_r2 : List Cond := [Cond.initialized RX3, Cond.code yX3_nthOf cX3_nthOf 7 (some .int), Cond.fieldLink RX3 29 "LoopEnvelopes$Segments" "names" "LLoopEnvelopes$Table;", Cond.methodLink RX3 81 yX4_at, Cond.methodLink RX6 119 yX1_ofSet, Cond.instanceMethod yX1_ofSet, Cond.selects RX1 yX1_ofSet yX1_ofSet, Cond.code yX1_ofSet cX1_ofSet 3 (some .int), Cond.methodLink RX6 133 yX2_depthOf, Cond.instanceMethod yX2_depthOf, Cond.selects RX2 yX2_depthOf yX2_depthOf, Cond.initialized RX2, Cond.code yX2_depthOf cX2_depthOf 2 (some .int), Cond.fieldLink RX2 24 "LoopEnvelopes$Judge" "marks" "LLoopEnvelopes$Table;", Cond.methodLink RX2 35 yX4_at, Cond.methodLink RX6 136 yX2_isIll, Cond.instanceMethod yX2_isIll, Cond.selects RX2 yX2_isIll yX2_isIll, Cond.code yX2_isIll cX2_isIll 2 (some .boolean), Cond.methodLink RX6 139 yX3_levelValue, Cond.instanceMethod yX3_levelValue, Cond.selects RX3 yX3_levelValue yX3_levelValue, Cond.code yX3_levelValue cX3_levelValue 3 (some .int), Cond.methodLink RX3 75 yX3_widthOf]
def wsX6_level_r3 : List Cond := [Cond.instanceMethod yX3_widthOf, Cond.selects RX3 yX3_widthOf yX3_widthOf, Cond.code yX3_widthOf cX3_widthOf 3 (some .int), Cond.fieldLink RX3 35 "LoopEnvelopes$Segments" "held" "I", Cond.fieldLink RX3 32 "LoopEnvelopes$Segments" "elements" "LLoopEnvelopes$Table;", Cond.fieldLink RX3 25 "LoopEnvelopes$Segments" "begins" "LLoopEnvelopes$Table;", Cond.methodLink RX3 96 yX3_figures, Cond.instanceMethod yX3_figures, Cond.selects RX3 yX3_figures yX3_figures, Cond.code yX3_figures cX3_figures 5 (some .int), Cond.methodLink RX3 51 yX3_numberAt, Cond.instanceMethod yX3_numberAt, Cond.selects RX3 yX3_numberAt yX3_numberAt, Cond.code yX3_numberAt cX3_numberAt 6 (some .int), Cond.fieldLink RX3 14 "LoopEnvelopes$Segments" "bytes" "LLoopEnvelopes$Bytes;", Cond.methodLink RX3 47 yX0_at, Cond.instanceMethod yX0_at, Cond.selects RX0 yX0_at yX0_at, Cond.initialized RX0, Cond.code yX0_at cX0_at 2 (some .int), Cond.fieldLink RX0 21 "LoopEnvelopes$Bytes" "used" "I", Cond.fieldLink RX0 15 "LoopEnvelopes$Bytes" "cells" "[B"]
def wsX6_level : List Cond := .code yX6_level cX6_level 5 (some .int) :: ((wsX6_level_r1 ++ (wsX6_level_r2 ++ wsX6_level_r3)) ++ wsX60 ++ wsX10 ++ wsX40 ++ wsX30 ++ wsX20 ++ wsX00)
def wsX6_claim_r1 : List Cond := [Cond.fieldLink RX6 54 "LoopEnvelopes" "taken" "Z", Cond.fieldLink RX6 30 "LoopEnvelopes" "frames" "LLoopEnvelopes$Frames;", Cond.constant RX6 142 (4410445), Cond.fieldLink RX6 39 "LoopEnvelopes" "judge" "LLoopEnvelopes$Judge;", Cond.fieldLink RX6 21 "LoopEnvelopes" "segments" "LLoopEnvelopes$Segments;", Cond.constant RX6 128 (5002828), Cond.constant RX6 149 (4999502), Cond.methodLink RX6 129 yX1_nthInSet, Cond.instanceMethod yX1_nthInSet, Cond.selects RX1 yX1_nthInSet yX1_nthInSet, Cond.initialized RX1, Cond.code yX1_nthInSet cX1_nthInSet 5 (some .int), Cond.fieldLink RX1 31 "LoopEnvelopes$Frames" "setsHeld" "I", Cond.fieldLink RX1 24 "LoopEnvelopes$Frames" "sets" "LLoopEnvelopes$Table;", Cond.fieldLink RX1 9 "LoopEnvelopes$Frames" "segments" "LLoopEnvelopes$Segments;", Cond.methodLink RX1 37 yX4_at, Cond.instanceMethod yX4_at, Cond.selects RX4 yX4_at yX4_at, Cond.initialized RX4, Cond.code yX4_at cX4_at 4 (some .int), Cond.fieldLink RX4 9 "LoopEnvelopes$Table" "rows" "I", Cond.fieldLink RX4 15 "LoopEnvelopes$Table" "columns" "I", Cond.fieldLink RX4 24 "LoopEnvelopes$Table" "cells" "[I", Cond.methodLink RX1 45 yX3_nthOf]
def wsX6_claim_r2 : List Cond := [Cond.instanceMethod yX3_nthOf, Cond.selects RX3 yX3_nthOf yX3_nthOf, Cond.initialized RX3, Cond.code yX3_nthOf cX3_nthOf 7 (some .int), Cond.fieldLink RX3 29 "LoopEnvelopes$Segments" "names" "LLoopEnvelopes$Table;", Cond.methodLink RX3 81 yX4_at, Cond.methodLink RX6 119 yX1_ofSet, Cond.instanceMethod yX1_ofSet, Cond.selects RX1 yX1_ofSet yX1_ofSet, Cond.code yX1_ofSet cX1_ofSet 3 (some .int), Cond.methodLink RX6 143 yX2_amountOf, Cond.instanceMethod yX2_amountOf, Cond.selects RX2 yX2_amountOf yX2_amountOf, Cond.initialized RX2, Cond.code yX2_amountOf cX2_amountOf 2 (some .int), Cond.fieldLink RX2 24 "LoopEnvelopes$Judge" "marks" "LLoopEnvelopes$Table;", Cond.methodLink RX2 35 yX4_at, Cond.methodLink RX6 146 yX3_tally, Cond.instanceMethod yX3_tally, Cond.selects RX3 yX3_tally yX3_tally, Cond.code yX3_tally cX3_tally 6 (some .int), Cond.methodLink RX6 150 yX3_endOfRun, Cond.instanceMethod yX3_endOfRun, Cond.selects RX3 yX3_endOfRun yX3_endOfRun]
def wsX6_claim_r3 : List Cond := [Cond.code yX3_endOfRun cX3_endOfRun 4 (some .int), Cond.fieldLink RX3 35 "LoopEnvelopes$Segments" "held" "I", Cond.methodLink RX6 153 yX2_lineSum, Cond.instanceMethod yX2_lineSum, Cond.selects RX2 yX2_lineSum yX2_lineSum, Cond.code yX2_lineSum cX2_lineSum 5 (some .int), Cond.fieldLink RX2 9 "LoopEnvelopes$Judge" "segments" "LLoopEnvelopes$Segments;", Cond.constant RX2 39 (4999502), Cond.methodLink RX2 40 yX3_endOfRun, Cond.methodLink RX2 45 yX2_amountOf]
def wsX6_claim : List Cond := .code yX6_claim cX6_claim 6 (some .int) :: ((wsX6_claim_r1 ++ (wsX6_claim_r2 ++ wsX6_claim_r3)) ++ wsX60 ++ wsX10 ++ wsX40 ++ wsX30 ++ wsX20)
def wsX6_size : List Cond := .code yX6_size cX6_size 3 (some .int) :: ([.fieldLink RX6 54 "LoopEnvelopes" "taken" "Z", .fieldLink RX6 21 "LoopEnvelopes" "segments" "LLoopEnvelopes$Segments;", .methodLink RX6 104 yX3_held, .instanceMethod yX3_held, .selects RX3 yX3_held yX3_held, .initialized RX3, .code yX3_held cX3_held 1 (some .int), .fieldLink RX3 35 "LoopEnvelopes$Segments" "held" "I", .methodLink RX6 156 yX3_widthOf, .instanceMethod yX3_widthOf, .selects RX3 yX3_widthOf yX3_widthOf, .code yX3_widthOf cX3_widthOf 3 (some .int), .fieldLink RX3 32 "LoopEnvelopes$Segments" "elements" "LLoopEnvelopes$Table;", .fieldLink RX3 25 "LoopEnvelopes$Segments" "begins" "LLoopEnvelopes$Table;", .methodLink RX3 81 yX4_at, .instanceMethod yX4_at, .selects RX4 yX4_at yX4_at, .initialized RX4, .code yX4_at cX4_at 4 (some .int), .fieldLink RX4 9 "LoopEnvelopes$Table" "rows" "I", .fieldLink RX4 15 "LoopEnvelopes$Table" "columns" "I", .fieldLink RX4 24 "LoopEnvelopes$Table" "cells" "[I"] ++ wsX60 ++ wsX30 ++ wsX40)
def wsX6_byteOf_r1 : List Cond := [Cond.fieldLink RX6 54 "LoopEnvelopes" "taken" "Z", Cond.fieldLink RX6 21 "LoopEnvelopes" "segments" "LLoopEnvelopes$Segments;", Cond.methodLink RX6 104 yX3_held, Cond.instanceMethod yX3_held, Cond.selects RX3 yX3_held yX3_held, Cond.initialized RX3, Cond.code yX3_held cX3_held 1 (some .int), Cond.fieldLink RX3 35 "LoopEnvelopes$Segments" "held" "I", Cond.methodLink RX6 159 yX3_byteIn, Cond.instanceMethod yX3_byteIn, Cond.selects RX3 yX3_byteIn yX3_byteIn, Cond.code yX3_byteIn cX3_byteIn 4 (some .int), Cond.fieldLink RX3 14 "LoopEnvelopes$Segments" "bytes" "LLoopEnvelopes$Bytes;", Cond.fieldLink RX3 25 "LoopEnvelopes$Segments" "begins" "LLoopEnvelopes$Table;", Cond.methodLink RX3 75 yX3_widthOf, Cond.instanceMethod yX3_widthOf, Cond.selects RX3 yX3_widthOf yX3_widthOf, Cond.code yX3_widthOf cX3_widthOf 3 (some .int), Cond.fieldLink RX3 32 "LoopEnvelopes$Segments" "elements" "LLoopEnvelopes$Table;", Cond.methodLink RX3 81 yX4_at, Cond.instanceMethod yX4_at, Cond.selects RX4 yX4_at yX4_at, Cond.initialized RX4, Cond.code yX4_at cX4_at 4 (some .int)]
def wsX6_byteOf_r2 : List Cond := [Cond.fieldLink RX4 9 "LoopEnvelopes$Table" "rows" "I", Cond.fieldLink RX4 15 "LoopEnvelopes$Table" "columns" "I", Cond.fieldLink RX4 24 "LoopEnvelopes$Table" "cells" "[I", Cond.methodLink RX3 47 yX0_at, Cond.instanceMethod yX0_at, Cond.selects RX0 yX0_at yX0_at, Cond.initialized RX0, Cond.code yX0_at cX0_at 2 (some .int), Cond.fieldLink RX0 21 "LoopEnvelopes$Bytes" "used" "I", Cond.fieldLink RX0 15 "LoopEnvelopes$Bytes" "cells" "[B"]
def wsX6_byteOf : List Cond := .code yX6_byteOf cX6_byteOf 5 (some .int) :: ((wsX6_byteOf_r1 ++ wsX6_byteOf_r2) ++ wsX60 ++ wsX30 ++ wsX40 ++ wsX00)
def wsX6_answer_r1 : List Cond := [Cond.fieldLink RX6 54 "LoopEnvelopes" "taken" "Z", Cond.fieldLink RX6 46 "LoopEnvelopes" "writer" "LLoopEnvelopes$Writer;", Cond.fieldLink RX6 30 "LoopEnvelopes" "frames" "LLoopEnvelopes$Frames;", Cond.methodLink RX6 162 yX5_clear, Cond.instanceMethod yX5_clear, Cond.selects RX5 yX5_clear yX5_clear, Cond.initialized RX5, Cond.code yX5_clear cX5_clear 1 none, Cond.fieldLink RX5 20 "LoopEnvelopes$Writer" "bytes" "LLoopEnvelopes$Bytes;", Cond.fieldLink RX5 24 "LoopEnvelopes$Writer" "over" "Z", Cond.methodLink RX5 40 yX0_shorten, Cond.instanceMethod yX0_shorten, Cond.selects RX0 yX0_shorten yX0_shorten, Cond.initialized RX0, Cond.code yX0_shorten cX0_shorten 2 none, Cond.fieldLink RX0 21 "LoopEnvelopes$Bytes" "used" "I", Cond.methodLink RX0 25 Lib.Math.min.name, Cond.static Lib.Math.min.name, Cond.initialized "java/lang/Math", Cond.code Lib.Math.min.name Lib.Math.min.code 2 (some .int), Cond.methodLink RX0 9 Lib.Math.max.name, Cond.static Lib.Math.max.name, Cond.code Lib.Math.max.name Lib.Math.max.code 2 (some .int), Cond.methodLink RX6 107 yX1_groupsHeld]
def wsX6_answer_r2 : List Cond := [Cond.instanceMethod yX1_groupsHeld, Cond.selects RX1 yX1_groupsHeld yX1_groupsHeld, Cond.initialized RX1, Cond.code yX1_groupsHeld cX1_groupsHeld 1 (some .int), Cond.fieldLink RX1 27 "LoopEnvelopes$Frames" "groupsHeld" "I", Cond.methodLink RX6 163 yX6_writeGroup, Cond.instanceMethod yX6_writeGroup, Cond.selects RX6 yX6_writeGroup yX6_writeGroup, Cond.initialized RX6, Cond.code yX6_writeGroup cX6_writeGroup 6 none, Cond.constant RX6 190 (4278098), Cond.fieldLink RX6 39 "LoopEnvelopes" "judge" "LLoopEnvelopes$Judge;", Cond.constant RX6 203 (4278085), Cond.methodLink RX6 116 yX1_ofGroup, Cond.instanceMethod yX1_ofGroup, Cond.selects RX1 yX1_ofGroup yX1_ofGroup, Cond.code yX1_ofGroup cX1_ofGroup 3 (some .int), Cond.fieldLink RX1 20 "LoopEnvelopes$Frames" "groups" "LLoopEnvelopes$Table;", Cond.methodLink RX1 37 yX4_at, Cond.instanceMethod yX4_at, Cond.selects RX4 yX4_at yX4_at, Cond.initialized RX4, Cond.code yX4_at cX4_at 4 (some .int), Cond.fieldLink RX4 9 "LoopEnvelopes$Table" "rows" "I"]
def wsX6_answer_r3 : List Cond := [Cond.fieldLink RX4 15 "LoopEnvelopes$Table" "columns" "I", Cond.fieldLink RX4 24 "LoopEnvelopes$Table" "cells" "[I", Cond.methodLink RX6 191 yX5_begin, Cond.instanceMethod yX5_begin, Cond.selects RX5 yX5_begin yX5_begin, Cond.code yX5_begin cX5_begin 2 none, Cond.methodLink RX5 46 yX5_add, Cond.instanceMethod yX5_add, Cond.selects RX5 yX5_add yX5_add, Cond.code yX5_add cX5_add 2 none, Cond.methodLink RX5 65 yX0_append, Cond.instanceMethod yX0_append, Cond.selects RX0 yX0_append yX0_append, Cond.code yX0_append cX0_append 2 (some .boolean), Cond.fieldLink RX0 15 "LoopEnvelopes$Bytes" "cells" "[B", Cond.methodLink RX6 194 yX5_element, Cond.instanceMethod yX5_element, Cond.selects RX5 yX5_element yX5_element, Cond.code yX5_element cX5_element 5 none, Cond.fieldLink RX5 9 "LoopEnvelopes$Writer" "segments" "LLoopEnvelopes$Segments;", Cond.methodLink RX5 49 yX3_splitter, Cond.instanceMethod yX3_splitter, Cond.selects RX3 yX3_splitter yX3_splitter, Cond.initialized RX3]
def wsX6_answer_r4 : List Cond := [Cond.code yX3_splitter cX3_splitter 1 (some .int), Cond.fieldLink RX3 14 "LoopEnvelopes$Segments" "bytes" "LLoopEnvelopes$Bytes;", Cond.methodLink RX3 47 yX0_at, Cond.instanceMethod yX0_at, Cond.selects RX0 yX0_at yX0_at, Cond.code yX0_at cX0_at 2 (some .int), Cond.methodLink RX5 54 yX3_widthOf, Cond.instanceMethod yX3_widthOf, Cond.selects RX3 yX3_widthOf yX3_widthOf, Cond.code yX3_widthOf cX3_widthOf 3 (some .int), Cond.fieldLink RX3 35 "LoopEnvelopes$Segments" "held" "I", Cond.fieldLink RX3 32 "LoopEnvelopes$Segments" "elements" "LLoopEnvelopes$Table;", Cond.fieldLink RX3 25 "LoopEnvelopes$Segments" "begins" "LLoopEnvelopes$Table;", Cond.methodLink RX3 81 yX4_at, Cond.methodLink RX5 58 yX3_byteIn, Cond.instanceMethod yX3_byteIn, Cond.selects RX3 yX3_byteIn yX3_byteIn, Cond.code yX3_byteIn cX3_byteIn 4 (some .int), Cond.methodLink RX3 75 yX3_widthOf, Cond.methodLink RX6 197 yX5_close, Cond.instanceMethod yX5_close, Cond.selects RX5 yX5_close yX5_close, Cond.code yX5_close cX5_close 1 none, Cond.methodLink RX5 62 yX3_closer]
def wsX6_answer_r5 : List Cond := [Cond.instanceMethod yX3_closer, Cond.selects RX3 yX3_closer yX3_closer, Cond.code yX3_closer cX3_closer 1 (some .int), Cond.methodLink RX6 200 yX6_writeSet, Cond.instanceMethod yX6_writeSet, Cond.selects RX6 yX6_writeSet yX6_writeSet, Cond.code yX6_writeSet cX6_writeSet 6 none, Cond.constant RX6 210 (4281172), Cond.constant RX6 211 (4277844), Cond.constant RX6 212 (4277582), Cond.methodLink RX6 119 yX1_ofSet, Cond.instanceMethod yX1_ofSet, Cond.selects RX1 yX1_ofSet yX1_ofSet, Cond.code yX1_ofSet cX1_ofSet 3 (some .int), Cond.fieldLink RX1 24 "LoopEnvelopes$Frames" "sets" "LLoopEnvelopes$Table;", Cond.methodLink RX6 122 yX2_faulty, Cond.instanceMethod yX2_faulty, Cond.selects RX2 yX2_faulty yX2_faulty, Cond.initialized RX2, Cond.code yX2_faulty cX2_faulty 6 (some .int), Cond.fieldLink RX2 15 "LoopEnvelopes$Judge" "frames" "LLoopEnvelopes$Frames;", Cond.methodLink RX2 54 yX1_setsHeld, Cond.instanceMethod yX1_setsHeld, Cond.selects RX1 yX1_setsHeld yX1_setsHeld]
def wsX6_answer_r6 : List Cond := [Cond.code yX1_setsHeld cX1_setsHeld 1 (some .int), Cond.fieldLink RX1 31 "LoopEnvelopes$Frames" "setsHeld" "I", Cond.methodLink RX2 49 yX1_ofSet, Cond.methodLink RX2 58 yX2_faultOf, Cond.instanceMethod yX2_faultOf, Cond.selects RX2 yX2_faultOf yX2_faultOf, Cond.code yX2_faultOf cX2_faultOf 2 (some .int), Cond.fieldLink RX2 24 "LoopEnvelopes$Judge" "marks" "LLoopEnvelopes$Table;", Cond.methodLink RX2 35 yX4_at, Cond.methodLink RX6 207 yX5_figure, Cond.instanceMethod yX5_figure, Cond.selects RX5 yX5_figure yX5_figure, Cond.code yX5_figure cX5_figure 2 none, Cond.methodLink RX6 125 yX2_faultOf, Cond.methodLink RX6 204 yX5_letter, Cond.instanceMethod yX5_letter, Cond.selects RX5 yX5_letter yX5_letter, Cond.code yX5_letter cX5_letter 2 none, Cond.methodLink RX6 110 yX2_rightAmong, Cond.instanceMethod yX2_rightAmong, Cond.selects RX2 yX2_rightAmong yX2_rightAmong, Cond.code yX2_rightAmong cX2_rightAmong 5 (some .int), Cond.methodLink RX6 166 yX5_finish, Cond.instanceMethod yX5_finish]
def wsX6_answer_r7 : List Cond := [Cond.selects RX5 yX5_finish yX5_finish, Cond.code yX5_finish cX5_finish 1 (some .int), Cond.methodLink RX5 43 yX5_clear, Cond.methodLink RX5 28 yX0_length, Cond.instanceMethod yX0_length, Cond.selects RX0 yX0_length yX0_length, Cond.code yX0_length cX0_length 1 (some .int)]
def wsX6_answer : List Cond := .code yX6_answer cX6_answer 2 (some .int) :: ((wsX6_answer_r1 ++ (wsX6_answer_r2 ++ (wsX6_answer_r3 ++ (wsX6_answer_r4 ++ (wsX6_answer_r5 ++ (wsX6_answer_r6 ++ wsX6_answer_r7)))))) ++ wsX60 ++ wsX50 ++ wsX00 ++ wsX10 ++ wsX40 ++ wsX30 ++ wsX20)
def wsX6_answered : List Cond := .code yX6_answered cX6_answered 3 (some .int) :: ([.fieldLink RX6 46 "LoopEnvelopes" "writer" "LLoopEnvelopes$Writer;", .methodLink RX6 169 yX5_at, .instanceMethod yX5_at, .selects RX5 yX5_at yX5_at, .initialized RX5, .code yX5_at cX5_at 2 (some .int), .fieldLink RX5 20 "LoopEnvelopes$Writer" "bytes" "LLoopEnvelopes$Bytes;", .methodLink RX5 32 yX0_at, .instanceMethod yX0_at, .selects RX0 yX0_at yX0_at, .initialized RX0, .code yX0_at cX0_at 2 (some .int), .fieldLink RX0 21 "LoopEnvelopes$Bytes" "used" "I", .fieldLink RX0 15 "LoopEnvelopes$Bytes" "cells" "[B"] ++ wsX60 ++ wsX50 ++ wsX00)
def wsX6_turn_r1 : List Cond := [Cond.fieldLink RX6 46 "LoopEnvelopes" "writer" "LLoopEnvelopes$Writer;", Cond.fieldLink RX6 14 "LoopEnvelopes" "text" "LLoopEnvelopes$Bytes;", Cond.methodLink RX6 103 yX5_length, Cond.instanceMethod yX5_length, Cond.selects RX5 yX5_length yX5_length, Cond.initialized RX5, Cond.code yX5_length cX5_length 1 (some .int), Cond.fieldLink RX5 20 "LoopEnvelopes$Writer" "bytes" "LLoopEnvelopes$Bytes;", Cond.methodLink RX5 28 yX0_length, Cond.instanceMethod yX0_length, Cond.selects RX0 yX0_length yX0_length, Cond.initialized RX0, Cond.code yX0_length cX0_length 1 (some .int), Cond.fieldLink RX0 21 "LoopEnvelopes$Bytes" "used" "I", Cond.methodLink RX6 170 yX5_copyInto, Cond.instanceMethod yX5_copyInto, Cond.selects RX5 yX5_copyInto yX5_copyInto, Cond.code yX5_copyInto cX5_copyInto 2 none, Cond.methodLink RX5 36 yX0_become, Cond.instanceMethod yX0_become, Cond.selects RX0 yX0_become yX0_become, Cond.code yX0_become cX0_become 3 none, Cond.methodLink RX0 28 yX0_at, Cond.instanceMethod yX0_at]
def wsX6_turn_r2 : List Cond := [Cond.selects RX0 yX0_at yX0_at, Cond.code yX0_at cX0_at 2 (some .int), Cond.fieldLink RX0 15 "LoopEnvelopes$Bytes" "cells" "[B", Cond.methodLink RX0 32 yX0_append, Cond.instanceMethod yX0_append, Cond.selects RX0 yX0_append yX0_append, Cond.code yX0_append cX0_append 2 (some .boolean)]
def wsX6_turn : List Cond := .code yX6_turn cX6_turn 2 (some .int) :: ((wsX6_turn_r1 ++ wsX6_turn_r2) ++ wsX60 ++ wsX50 ++ wsX00)
def wsX7_init : List Cond := .code yX7_init cX7_init 1 none :: ([.methodLink RX7 1 objectInit, .instanceMethod objectInit, .code objectInit ⟨#[0xb1]⟩ 1 none, .arrayClass .int, .fieldLink RX7 7 "LoopEnvelopesModel" "text" "[I", .fieldLink RX7 13 "LoopEnvelopesModel" "where" "I", .fieldLink RX7 17 "LoopEnvelopesModel" "was" "[I", .fieldLink RX7 20 "LoopEnvelopesModel" "nameOf" "[I", .fieldLink RX7 23 "LoopEnvelopesModel" "elements" "[I", .fieldLink RX7 26 "LoopEnvelopesModel" "from" "[I", .fieldLink RX7 29 "LoopEnvelopesModel" "long0" "[I", .arrayClass .boolean, .fieldLink RX7 32 "LoopEnvelopesModel" "isIll" "[Z", .fieldLink RX7 36 "LoopEnvelopesModel" "fault" "[I", .fieldLink RX7 39 "LoopEnvelopesModel" "depth" "[I", .fieldLink RX7 42 "LoopEnvelopesModel" "groupSegment" "[I", .fieldLink RX7 45 "LoopEnvelopesModel" "groupFirst" "[I", .fieldLink RX7 48 "LoopEnvelopesModel" "groupSets" "[I", .fieldLink RX7 51 "LoopEnvelopesModel" "setGroup" "[I", .fieldLink RX7 54 "LoopEnvelopesModel" "setFirst" "[I", .fieldLink RX7 57 "LoopEnvelopesModel" "setMany" "[I", .fieldLink RX7 60 "LoopEnvelopesModel" "answer" "[I"] ++ wsX70)
def wsX7_in : List Cond := .code yX7_in cX7_in 3 (some .boolean) :: ([])
def wsX7_feed : List Cond := .code yX7_feed cX7_feed 5 (some .int) :: ([.fieldLink RX7 67 "LoopEnvelopesModel" "size" "I", .fieldLink RX7 7 "LoopEnvelopesModel" "text" "[I", .constantLong RX7 70 (255), .methodLink RX7 63 yX7_in, .static yX7_in, .initialized RX7, .code yX7_in cX7_in 3 (some .boolean)] ++ wsX70)
def wsX7_set : List Cond := .code yX7_set cX7_set 4 (some .int) :: ([.fieldLink RX7 67 "LoopEnvelopesModel" "size" "I", .fieldLink RX7 7 "LoopEnvelopesModel" "text" "[I", .methodLink RX7 63 yX7_in, .static yX7_in, .initialized RX7, .code yX7_in cX7_in 3 (some .boolean)] ++ wsX70)
def wsX7_cut : List Cond := .code yX7_cut cX7_cut 3 (some .int) :: ([.fieldLink RX7 67 "LoopEnvelopesModel" "size" "I", .methodLink RX7 63 yX7_in, .static yX7_in, .initialized RX7, .code yX7_in cX7_in 3 (some .boolean)] ++ wsX70)
def wsX7_isOpening : List Cond := .code yX7_isOpening cX7_isOpening 3 (some .boolean) :: ([.fieldLink RX7 67 "LoopEnvelopesModel" "size" "I", .fieldLink RX7 7 "LoopEnvelopesModel" "text" "[I", .methodLink RX7 76 yX7_isFigure, .static yX7_isFigure, .initialized RX7, .code yX7_isFigure cX7_isFigure 1 (some .boolean), .methodLink RX7 63 yX7_in, .static yX7_in, .code yX7_in cX7_in 3 (some .boolean), .methodLink RX7 79 yX7_isMark, .static yX7_isMark, .code yX7_isMark cX7_isMark 1 (some .boolean), .methodLink RX7 72 yX7_isLetter, .static yX7_isLetter, .code yX7_isLetter cX7_isLetter 1 (some .boolean)] ++ wsX70)
def wsX7_found : List Cond := .code yX7_found cX7_found 3 (some .int) :: ([.fieldLink RX7 119 "LoopEnvelopesModel" "isTaken" "Z", .fieldLink RX7 13 "LoopEnvelopesModel" "where" "I"] ++ wsX70)
def wsX7_read_r1 : List Cond := [Cond.fieldLink RX7 67 "LoopEnvelopesModel" "size" "I", Cond.fieldLink RX7 17 "LoopEnvelopesModel" "was" "[I", Cond.fieldLink RX7 7 "LoopEnvelopesModel" "text" "[I", Cond.fieldLink RX7 123 "LoopEnvelopesModel" "e" "I", Cond.fieldLink RX7 97 "LoopEnvelopesModel" "p" "I", Cond.fieldLink RX7 154 "LoopEnvelopesModel" "s" "I", Cond.fieldLink RX7 141 "LoopEnvelopesModel" "number" "I", Cond.fieldLink RX7 157 "LoopEnvelopesModel" "segments" "I", Cond.fieldLink RX7 132 "LoopEnvelopesModel" "groups" "I", Cond.fieldLink RX7 135 "LoopEnvelopesModel" "sets" "I", Cond.fieldLink RX7 129 "LoopEnvelopesModel" "state" "I", Cond.fieldLink RX7 20 "LoopEnvelopesModel" "nameOf" "[I", Cond.fieldLink RX7 119 "LoopEnvelopesModel" "isTaken" "Z", Cond.fieldLink RX7 13 "LoopEnvelopesModel" "where" "I", Cond.methodLink RX7 147 yX7_isOpening, Cond.instanceMethod yX7_isOpening, Cond.selects RX7 yX7_isOpening yX7_isOpening, Cond.initialized RX7, Cond.code yX7_isOpening cX7_isOpening 3 (some .boolean), Cond.methodLink RX7 76 yX7_isFigure, Cond.static yX7_isFigure, Cond.code yX7_isFigure cX7_isFigure 1 (some .boolean), Cond.methodLink RX7 63 yX7_in, Cond.static yX7_in]
def wsX7_read_r2 : List Cond := [Cond.code yX7_in cX7_in 3 (some .boolean), Cond.methodLink RX7 79 yX7_isMark, Cond.static yX7_isMark, Cond.code yX7_isMark cX7_isMark 1 (some .boolean), Cond.methodLink RX7 72 yX7_isLetter, Cond.static yX7_isLetter, Cond.code yX7_isLetter cX7_isLetter 1 (some .boolean), Cond.methodLink RX7 151 yX7_found, Cond.instanceMethod yX7_found, Cond.selects RX7 yX7_found yX7_found, Cond.code yX7_found cX7_found 3 (some .int), Cond.methodLink RX7 160 yX7_isEnd, Cond.static yX7_isEnd, Cond.code yX7_isEnd cX7_isEnd 1 (some .boolean), Cond.methodLink RX7 163 yX7_split, Cond.instanceMethod yX7_split, Cond.selects RX7 yX7_split yX7_split, Cond.code yX7_split cX7_split 7 (some .boolean), Cond.fieldLink RX7 23 "LoopEnvelopesModel" "elements" "[I", Cond.fieldLink RX7 26 "LoopEnvelopesModel" "from" "[I", Cond.fieldLink RX7 29 "LoopEnvelopesModel" "long0" "[I", Cond.methodLink RX7 82 yX7_at, Cond.instanceMethod yX7_at, Cond.selects RX7 yX7_at yX7_at]
def wsX7_read_r3 : List Cond := [Cond.code yX7_at cX7_at 3 (some .int), Cond.methodLink RX7 166 yX7_findName, Cond.instanceMethod yX7_findName, Cond.selects RX7 yX7_findName yX7_findName, Cond.code yX7_findName cX7_findName 2 (some .int), Cond.methodLink RX7 93 yX7_isName, Cond.instanceMethod yX7_isName, Cond.selects RX7 yX7_isName yX7_isName, Cond.code yX7_isName cX7_isName 5 (some .boolean), Cond.methodLink RX7 86 yX7_lengthOf, Cond.instanceMethod yX7_lengthOf, Cond.selects RX7 yX7_lengthOf yX7_lengthOf, Cond.code yX7_lengthOf cX7_lengthOf 3 (some .int), Cond.methodLink RX7 89 yX7_byteAt, Cond.instanceMethod yX7_byteAt, Cond.selects RX7 yX7_byteAt yX7_byteAt, Cond.code yX7_byteAt cX7_byteAt 4 (some .int), Cond.methodLink RX7 170 yX7_stands, Cond.instanceMethod yX7_stands, Cond.selects RX7 yX7_stands yX7_stands, Cond.code yX7_stands cX7_stands 4 (some .boolean), Cond.fieldLink RX7 42 "LoopEnvelopesModel" "groupSegment" "[I", Cond.fieldLink RX7 45 "LoopEnvelopesModel" "groupFirst" "[I", Cond.fieldLink RX7 48 "LoopEnvelopesModel" "groupSets" "[I"]
def wsX7_read_r4 : List Cond := [Cond.fieldLink RX7 51 "LoopEnvelopesModel" "setGroup" "[I", Cond.fieldLink RX7 54 "LoopEnvelopesModel" "setFirst" "[I", Cond.fieldLink RX7 57 "LoopEnvelopesModel" "setMany" "[I", Cond.methodLink RX7 100 yX7_hasFigures, Cond.instanceMethod yX7_hasFigures, Cond.selects RX7 yX7_hasFigures yX7_hasFigures, Cond.code yX7_hasFigures cX7_hasFigures 8 (some .boolean), Cond.methodLink RX7 138 yX7_isCount, Cond.instanceMethod yX7_isCount, Cond.selects RX7 yX7_isCount yX7_isCount, Cond.code yX7_isCount cX7_isCount 3 (some .boolean), Cond.methodLink RX7 126 yX7_numberOf, Cond.instanceMethod yX7_numberOf, Cond.selects RX7 yX7_numberOf yX7_numberOf, Cond.code yX7_numberOf cX7_numberOf 5 (some .int), Cond.methodLink RX7 144 yX7_isNumber, Cond.instanceMethod yX7_isNumber, Cond.selects RX7 yX7_isNumber yX7_isNumber, Cond.code yX7_isNumber cX7_isNumber 3 (some .boolean), Cond.methodLink RX7 173 yX7_judge, Cond.instanceMethod yX7_judge, Cond.selects RX7 yX7_judge yX7_judge, Cond.code yX7_judge cX7_judge 5 none, Cond.fieldLink RX7 32 "LoopEnvelopesModel" "isIll" "[Z"]
def wsX7_read_r5 : List Cond := [Cond.fieldLink RX7 39 "LoopEnvelopesModel" "depth" "[I", Cond.fieldLink RX7 36 "LoopEnvelopesModel" "fault" "[I", Cond.methodLink RX7 214 yX7_isWell, Cond.instanceMethod yX7_isWell, Cond.selects RX7 yX7_isWell yX7_isWell, Cond.code yX7_isWell cX7_isWell 3 (some .boolean), Cond.methodLink RX7 103 yX7_isKind, Cond.instanceMethod yX7_isKind, Cond.selects RX7 yX7_isKind yX7_isKind, Cond.code yX7_isKind cX7_isKind 3 (some .boolean), Cond.methodLink RX7 107 yX7_isMore, Cond.instanceMethod yX7_isMore, Cond.selects RX7 yX7_isMore yX7_isMore, Cond.code yX7_isMore cX7_isMore 3 (some .boolean), Cond.methodLink RX7 110 yX7_isWord, Cond.instanceMethod yX7_isWord, Cond.selects RX7 yX7_isWord yX7_isWord, Cond.code yX7_isWord cX7_isWord 3 (some .boolean), Cond.methodLink RX7 113 yX7_isAmount, Cond.instanceMethod yX7_isAmount, Cond.selects RX7 yX7_isAmount yX7_isAmount, Cond.code yX7_isAmount cX7_isAmount 7 (some .boolean), Cond.methodLink RX7 116 yX7_isCode, Cond.instanceMethod yX7_isCode]
def wsX7_read_r6 : List Cond := [Cond.selects RX7 yX7_isCode yX7_isCode, Cond.code yX7_isCode cX7_isCode 7 (some .boolean), Cond.methodLink RX7 217 yX7_faultOf, Cond.instanceMethod yX7_faultOf, Cond.selects RX7 yX7_faultOf yX7_faultOf, Cond.code yX7_faultOf cX7_faultOf 4 (some .int), Cond.methodLink RX7 202 yX7_isOrder, Cond.instanceMethod yX7_isOrder, Cond.selects RX7 yX7_isOrder yX7_isOrder, Cond.code yX7_isOrder cX7_isOrder 4 (some .boolean), Cond.methodLink RX7 183 yX7_ahead, Cond.instanceMethod yX7_ahead, Cond.selects RX7 yX7_ahead yX7_ahead, Cond.code yX7_ahead cX7_ahead 5 (some .int), Cond.methodLink RX7 205 yX7_isLinked, Cond.instanceMethod yX7_isLinked, Cond.selects RX7 yX7_isLinked yX7_isLinked, Cond.code yX7_isLinked cX7_isLinked 5 (some .boolean), Cond.methodLink RX7 192 yX7_many, Cond.instanceMethod yX7_many, Cond.selects RX7 yX7_many yX7_many, Cond.code yX7_many cX7_many 6 (some .int), Cond.methodLink RX7 180 yX7_kindOf, Cond.instanceMethod yX7_kindOf]
def wsX7_read_r7 : List Cond := [Cond.selects RX7 yX7_kindOf yX7_kindOf, Cond.code yX7_kindOf cX7_kindOf 2 (some .int), Cond.methodLink RX7 195 yX7_levelBy, Cond.instanceMethod yX7_levelBy, Cond.selects RX7 yX7_levelBy yX7_levelBy, Cond.code yX7_levelBy cX7_levelBy 6 (some .int), Cond.methodLink RX7 177 yX7_isLoose, Cond.instanceMethod yX7_isLoose, Cond.selects RX7 yX7_isLoose yX7_isLoose, Cond.code yX7_isLoose cX7_isLoose 2 (some .boolean), Cond.methodLink RX7 199 yX7_linesAhead, Cond.instanceMethod yX7_linesAhead, Cond.selects RX7 yX7_linesAhead yX7_linesAhead, Cond.code yX7_linesAhead cX7_linesAhead 5 (some .int), Cond.methodLink RX7 208 yX7_hasUnder, Cond.instanceMethod yX7_hasUnder, Cond.selects RX7 yX7_hasUnder yX7_hasUnder, Cond.code yX7_hasUnder cX7_hasUnder 4 (some .boolean), Cond.methodLink RX7 189 yX7_amountOf, Cond.instanceMethod yX7_amountOf, Cond.selects RX7 yX7_amountOf yX7_amountOf, Cond.code yX7_amountOf cX7_amountOf 7 (some .int), Cond.methodLink RX7 211 yX7_linesSum, Cond.instanceMethod yX7_linesSum]
def wsX7_read_r8 : List Cond := [Cond.selects RX7 yX7_linesSum yX7_linesSum, Cond.code yX7_linesSum cX7_linesSum 5 (some .int), Cond.methodLink RX7 186 yX7_linesEnd, Cond.instanceMethod yX7_linesEnd, Cond.selects RX7 yX7_linesEnd yX7_linesEnd, Cond.code yX7_linesEnd cX7_linesEnd 4 (some .int)]
def wsX7_read : List Cond := .code yX7_read cX7_read 5 (some .int) :: ((wsX7_read_r1 ++ (wsX7_read_r2 ++ (wsX7_read_r3 ++ (wsX7_read_r4 ++ (wsX7_read_r5 ++ (wsX7_read_r6 ++ (wsX7_read_r7 ++ wsX7_read_r8))))))) ++ wsX70)
def wsX7_where : List Cond := .code yX7_where cX7_where 1 (some .int) :: ([.fieldLink RX7 13 "LoopEnvelopesModel" "where" "I"] ++ wsX70)
def wsX7_count : List Cond := .code yX7_count cX7_count 2 (some .int) :: ([.fieldLink RX7 67 "LoopEnvelopesModel" "size" "I", .fieldLink RX7 223 "LoopEnvelopesModel" "answered" "I", .fieldLink RX7 119 "LoopEnvelopesModel" "isTaken" "Z", .fieldLink RX7 157 "LoopEnvelopesModel" "segments" "I", .fieldLink RX7 132 "LoopEnvelopesModel" "groups" "I", .fieldLink RX7 135 "LoopEnvelopesModel" "sets" "I", .fieldLink RX7 141 "LoopEnvelopesModel" "number" "I", .methodLink RX7 63 yX7_in, .static yX7_in, .initialized RX7, .code yX7_in cX7_in 3 (some .boolean), .methodLink RX7 226 yX7_right, .instanceMethod yX7_right, .selects RX7 yX7_right yX7_right, .code yX7_right cX7_right 3 (some .int), .methodLink RX7 220 yX7_faults, .instanceMethod yX7_faults, .selects RX7 yX7_faults yX7_faults, .code yX7_faults cX7_faults 4 (some .int), .fieldLink RX7 54 "LoopEnvelopesModel" "setFirst" "[I", .fieldLink RX7 57 "LoopEnvelopesModel" "setMany" "[I", .fieldLink RX7 36 "LoopEnvelopesModel" "fault" "[I"] ++ wsX70)
def wsX7_group_r1 : List Cond := [Cond.fieldLink RX7 119 "LoopEnvelopesModel" "isTaken" "Z", Cond.fieldLink RX7 132 "LoopEnvelopesModel" "groups" "I", Cond.fieldLink RX7 42 "LoopEnvelopesModel" "groupSegment" "[I", Cond.fieldLink RX7 48 "LoopEnvelopesModel" "groupSets" "[I", Cond.fieldLink RX7 45 "LoopEnvelopesModel" "groupFirst" "[I", Cond.methodLink RX7 63 yX7_in, Cond.static yX7_in, Cond.initialized RX7, Cond.code yX7_in cX7_in 3 (some .boolean), Cond.methodLink RX7 89 yX7_byteAt, Cond.instanceMethod yX7_byteAt, Cond.selects RX7 yX7_byteAt yX7_byteAt, Cond.code yX7_byteAt cX7_byteAt 4 (some .int), Cond.fieldLink RX7 17 "LoopEnvelopesModel" "was" "[I", Cond.fieldLink RX7 26 "LoopEnvelopesModel" "from" "[I", Cond.methodLink RX7 82 yX7_at, Cond.instanceMethod yX7_at, Cond.selects RX7 yX7_at yX7_at, Cond.code yX7_at cX7_at 3 (some .int), Cond.methodLink RX7 126 yX7_numberOf, Cond.instanceMethod yX7_numberOf, Cond.selects RX7 yX7_numberOf yX7_numberOf, Cond.code yX7_numberOf cX7_numberOf 5 (some .int), Cond.methodLink RX7 86 yX7_lengthOf]
def wsX7_group_r2 : List Cond := [Cond.instanceMethod yX7_lengthOf, Cond.selects RX7 yX7_lengthOf yX7_lengthOf, Cond.code yX7_lengthOf cX7_lengthOf 3 (some .int), Cond.fieldLink RX7 29 "LoopEnvelopesModel" "long0" "[I"]
def wsX7_group : List Cond := .code yX7_group cX7_group 4 (some .int) :: ((wsX7_group_r1 ++ wsX7_group_r2) ++ wsX70)
def wsX7_setOf_r1 : List Cond := [Cond.fieldLink RX7 119 "LoopEnvelopesModel" "isTaken" "Z", Cond.fieldLink RX7 135 "LoopEnvelopesModel" "sets" "I", Cond.fieldLink RX7 54 "LoopEnvelopesModel" "setFirst" "[I", Cond.fieldLink RX7 57 "LoopEnvelopesModel" "setMany" "[I", Cond.fieldLink RX7 51 "LoopEnvelopesModel" "setGroup" "[I", Cond.fieldLink RX7 20 "LoopEnvelopesModel" "nameOf" "[I", Cond.fieldLink RX7 32 "LoopEnvelopesModel" "isIll" "[Z", Cond.methodLink RX7 63 yX7_in, Cond.static yX7_in, Cond.initialized RX7, Cond.code yX7_in cX7_in 3 (some .boolean), Cond.methodLink RX7 192 yX7_many, Cond.instanceMethod yX7_many, Cond.selects RX7 yX7_many yX7_many, Cond.code yX7_many cX7_many 6 (some .int), Cond.methodLink RX7 220 yX7_faults, Cond.instanceMethod yX7_faults, Cond.selects RX7 yX7_faults yX7_faults, Cond.code yX7_faults cX7_faults 4 (some .int), Cond.fieldLink RX7 36 "LoopEnvelopesModel" "fault" "[I", Cond.methodLink RX7 189 yX7_amountOf, Cond.instanceMethod yX7_amountOf, Cond.selects RX7 yX7_amountOf yX7_amountOf, Cond.code yX7_amountOf cX7_amountOf 7 (some .int)]
def wsX7_setOf_r2 : List Cond := [Cond.methodLink RX7 86 yX7_lengthOf, Cond.instanceMethod yX7_lengthOf, Cond.selects RX7 yX7_lengthOf yX7_lengthOf, Cond.code yX7_lengthOf cX7_lengthOf 3 (some .int), Cond.fieldLink RX7 29 "LoopEnvelopesModel" "long0" "[I", Cond.methodLink RX7 82 yX7_at, Cond.instanceMethod yX7_at, Cond.selects RX7 yX7_at yX7_at, Cond.code yX7_at cX7_at 3 (some .int), Cond.methodLink RX7 89 yX7_byteAt, Cond.instanceMethod yX7_byteAt, Cond.selects RX7 yX7_byteAt yX7_byteAt, Cond.code yX7_byteAt cX7_byteAt 4 (some .int), Cond.fieldLink RX7 17 "LoopEnvelopesModel" "was" "[I", Cond.fieldLink RX7 26 "LoopEnvelopesModel" "from" "[I", Cond.methodLink RX7 76 yX7_isFigure, Cond.static yX7_isFigure, Cond.code yX7_isFigure cX7_isFigure 1 (some .boolean)]
def wsX7_setOf : List Cond := .code yX7_setOf cX7_setOf 7 (some .int) :: ((wsX7_setOf_r1 ++ wsX7_setOf_r2) ++ wsX70)
def wsX7_fault : List Cond := .code yX7_fault cX7_fault 5 (some .int) :: ([.fieldLink RX7 119 "LoopEnvelopesModel" "isTaken" "Z", .fieldLink RX7 135 "LoopEnvelopesModel" "sets" "I", .fieldLink RX7 54 "LoopEnvelopesModel" "setFirst" "[I", .fieldLink RX7 36 "LoopEnvelopesModel" "fault" "[I", .methodLink RX7 63 yX7_in, .static yX7_in, .initialized RX7, .code yX7_in cX7_in 3 (some .boolean), .methodLink RX7 230 yX7_pick, .instanceMethod yX7_pick, .selects RX7 yX7_pick yX7_pick, .code yX7_pick cX7_pick 7 (some .int), .fieldLink RX7 57 "LoopEnvelopesModel" "setMany" "[I", .fieldLink RX7 20 "LoopEnvelopesModel" "nameOf" "[I"] ++ wsX70)
def wsX7_level_r1 : List Cond := [Cond.fieldLink RX7 119 "LoopEnvelopesModel" "isTaken" "Z", Cond.fieldLink RX7 135 "LoopEnvelopesModel" "sets" "I", Cond.fieldLink RX7 54 "LoopEnvelopesModel" "setFirst" "[I", Cond.fieldLink RX7 39 "LoopEnvelopesModel" "depth" "[I", Cond.fieldLink RX7 32 "LoopEnvelopesModel" "isIll" "[Z", Cond.methodLink RX7 63 yX7_in, Cond.static yX7_in, Cond.initialized RX7, Cond.code yX7_in cX7_in 3 (some .boolean), Cond.methodLink RX7 230 yX7_pick, Cond.instanceMethod yX7_pick, Cond.selects RX7 yX7_pick yX7_pick, Cond.code yX7_pick cX7_pick 7 (some .int), Cond.fieldLink RX7 57 "LoopEnvelopesModel" "setMany" "[I", Cond.fieldLink RX7 36 "LoopEnvelopesModel" "fault" "[I", Cond.fieldLink RX7 20 "LoopEnvelopesModel" "nameOf" "[I", Cond.methodLink RX7 177 yX7_isLoose, Cond.instanceMethod yX7_isLoose, Cond.selects RX7 yX7_isLoose yX7_isLoose, Cond.code yX7_isLoose cX7_isLoose 2 (some .boolean), Cond.methodLink RX7 126 yX7_numberOf, Cond.instanceMethod yX7_numberOf, Cond.selects RX7 yX7_numberOf yX7_numberOf, Cond.code yX7_numberOf cX7_numberOf 5 (some .int)]
def wsX7_level_r2 : List Cond := [Cond.methodLink RX7 86 yX7_lengthOf, Cond.instanceMethod yX7_lengthOf, Cond.selects RX7 yX7_lengthOf yX7_lengthOf, Cond.code yX7_lengthOf cX7_lengthOf 3 (some .int), Cond.fieldLink RX7 29 "LoopEnvelopesModel" "long0" "[I", Cond.methodLink RX7 82 yX7_at, Cond.instanceMethod yX7_at, Cond.selects RX7 yX7_at yX7_at, Cond.code yX7_at cX7_at 3 (some .int), Cond.methodLink RX7 89 yX7_byteAt, Cond.instanceMethod yX7_byteAt, Cond.selects RX7 yX7_byteAt yX7_byteAt, Cond.code yX7_byteAt cX7_byteAt 4 (some .int), Cond.fieldLink RX7 17 "LoopEnvelopesModel" "was" "[I", Cond.fieldLink RX7 26 "LoopEnvelopesModel" "from" "[I"]
def wsX7_level : List Cond := .code yX7_level cX7_level 5 (some .int) :: ((wsX7_level_r1 ++ wsX7_level_r2) ++ wsX70)
def wsX7_claim_r1 : List Cond := [Cond.fieldLink RX7 119 "LoopEnvelopesModel" "isTaken" "Z", Cond.fieldLink RX7 135 "LoopEnvelopesModel" "sets" "I", Cond.fieldLink RX7 54 "LoopEnvelopesModel" "setFirst" "[I", Cond.fieldLink RX7 57 "LoopEnvelopesModel" "setMany" "[I", Cond.fieldLink RX7 32 "LoopEnvelopesModel" "isIll" "[Z", Cond.methodLink RX7 63 yX7_in, Cond.static yX7_in, Cond.initialized RX7, Cond.code yX7_in cX7_in 3 (some .boolean), Cond.methodLink RX7 230 yX7_pick, Cond.instanceMethod yX7_pick, Cond.selects RX7 yX7_pick yX7_pick, Cond.code yX7_pick cX7_pick 7 (some .int), Cond.fieldLink RX7 36 "LoopEnvelopesModel" "fault" "[I", Cond.fieldLink RX7 20 "LoopEnvelopesModel" "nameOf" "[I", Cond.methodLink RX7 189 yX7_amountOf, Cond.instanceMethod yX7_amountOf, Cond.selects RX7 yX7_amountOf yX7_amountOf, Cond.code yX7_amountOf cX7_amountOf 7 (some .int), Cond.methodLink RX7 86 yX7_lengthOf, Cond.instanceMethod yX7_lengthOf, Cond.selects RX7 yX7_lengthOf yX7_lengthOf, Cond.code yX7_lengthOf cX7_lengthOf 3 (some .int), Cond.fieldLink RX7 29 "LoopEnvelopesModel" "long0" "[I"]
def wsX7_claim_r2 : List Cond := [Cond.methodLink RX7 82 yX7_at, Cond.instanceMethod yX7_at, Cond.selects RX7 yX7_at yX7_at, Cond.code yX7_at cX7_at 3 (some .int), Cond.methodLink RX7 89 yX7_byteAt, Cond.instanceMethod yX7_byteAt, Cond.selects RX7 yX7_byteAt yX7_byteAt, Cond.code yX7_byteAt cX7_byteAt 4 (some .int), Cond.fieldLink RX7 17 "LoopEnvelopesModel" "was" "[I", Cond.fieldLink RX7 26 "LoopEnvelopesModel" "from" "[I", Cond.methodLink RX7 76 yX7_isFigure, Cond.static yX7_isFigure, Cond.code yX7_isFigure cX7_isFigure 1 (some .boolean), Cond.methodLink RX7 192 yX7_many, Cond.instanceMethod yX7_many, Cond.selects RX7 yX7_many yX7_many, Cond.code yX7_many cX7_many 6 (some .int), Cond.methodLink RX7 186 yX7_linesEnd, Cond.instanceMethod yX7_linesEnd, Cond.selects RX7 yX7_linesEnd yX7_linesEnd, Cond.code yX7_linesEnd cX7_linesEnd 4 (some .int), Cond.methodLink RX7 211 yX7_linesSum, Cond.instanceMethod yX7_linesSum, Cond.selects RX7 yX7_linesSum yX7_linesSum]
def wsX7_claim_r3 : List Cond := [Cond.code yX7_linesSum cX7_linesSum 5 (some .int)]
def wsX7_claim : List Cond := .code yX7_claim cX7_claim 7 (some .int) :: ((wsX7_claim_r1 ++ (wsX7_claim_r2 ++ wsX7_claim_r3)) ++ wsX70)
def wsX7_size : List Cond := .code yX7_size cX7_size 3 (some .int) :: ([.fieldLink RX7 119 "LoopEnvelopesModel" "isTaken" "Z", .fieldLink RX7 157 "LoopEnvelopesModel" "segments" "I", .fieldLink RX7 23 "LoopEnvelopesModel" "elements" "[I", .methodLink RX7 63 yX7_in, .static yX7_in, .initialized RX7, .code yX7_in cX7_in 3 (some .boolean), .methodLink RX7 86 yX7_lengthOf, .instanceMethod yX7_lengthOf, .selects RX7 yX7_lengthOf yX7_lengthOf, .code yX7_lengthOf cX7_lengthOf 3 (some .int), .fieldLink RX7 29 "LoopEnvelopesModel" "long0" "[I", .methodLink RX7 82 yX7_at, .instanceMethod yX7_at, .selects RX7 yX7_at yX7_at, .code yX7_at cX7_at 3 (some .int)] ++ wsX70)
def wsX7_byteOf : List Cond := .code yX7_byteOf cX7_byteOf 4 (some .int) :: ([.fieldLink RX7 119 "LoopEnvelopesModel" "isTaken" "Z", .fieldLink RX7 157 "LoopEnvelopesModel" "segments" "I", .fieldLink RX7 23 "LoopEnvelopesModel" "elements" "[I", .methodLink RX7 63 yX7_in, .static yX7_in, .initialized RX7, .code yX7_in cX7_in 3 (some .boolean), .methodLink RX7 86 yX7_lengthOf, .instanceMethod yX7_lengthOf, .selects RX7 yX7_lengthOf yX7_lengthOf, .code yX7_lengthOf cX7_lengthOf 3 (some .int), .fieldLink RX7 29 "LoopEnvelopesModel" "long0" "[I", .methodLink RX7 82 yX7_at, .instanceMethod yX7_at, .selects RX7 yX7_at yX7_at, .code yX7_at cX7_at 3 (some .int), .methodLink RX7 89 yX7_byteAt, .instanceMethod yX7_byteAt, .selects RX7 yX7_byteAt yX7_byteAt, .code yX7_byteAt cX7_byteAt 4 (some .int), .fieldLink RX7 17 "LoopEnvelopesModel" "was" "[I", .fieldLink RX7 26 "LoopEnvelopesModel" "from" "[I"] ++ wsX70)
def wsX7_answer_r1 : List Cond := [Cond.fieldLink RX7 119 "LoopEnvelopesModel" "isTaken" "Z", Cond.fieldLink RX7 223 "LoopEnvelopesModel" "answered" "I", Cond.fieldLink RX7 233 "LoopEnvelopesModel" "isFull" "Z", Cond.fieldLink RX7 132 "LoopEnvelopesModel" "groups" "I", Cond.methodLink RX7 253 yX7_writeGroup, Cond.instanceMethod yX7_writeGroup, Cond.selects RX7 yX7_writeGroup yX7_writeGroup, Cond.initialized RX7, Cond.code yX7_writeGroup cX7_writeGroup 5 none, Cond.fieldLink RX7 42 "LoopEnvelopesModel" "groupSegment" "[I", Cond.fieldLink RX7 154 "LoopEnvelopesModel" "s" "I", Cond.fieldLink RX7 45 "LoopEnvelopesModel" "groupFirst" "[I", Cond.fieldLink RX7 48 "LoopEnvelopesModel" "groupSets" "[I", Cond.fieldLink RX7 123 "LoopEnvelopesModel" "e" "I", Cond.methodLink RX7 239 yX7_write3, Cond.instanceMethod yX7_write3, Cond.selects RX7 yX7_write3 yX7_write3, Cond.code yX7_write3 cX7_write3 4 none, Cond.methodLink RX7 236 yX7_write, Cond.instanceMethod yX7_write, Cond.selects RX7 yX7_write yX7_write, Cond.code yX7_write cX7_write 2 none, Cond.fieldLink RX7 60 "LoopEnvelopesModel" "answer" "[I", Cond.methodLink RX7 243 yX7_writeElement]
def wsX7_answer_r2 : List Cond := [Cond.instanceMethod yX7_writeElement, Cond.selects RX7 yX7_writeElement yX7_writeElement, Cond.code yX7_writeElement cX7_writeElement 4 none, Cond.fieldLink RX7 23 "LoopEnvelopesModel" "elements" "[I", Cond.methodLink RX7 86 yX7_lengthOf, Cond.instanceMethod yX7_lengthOf, Cond.selects RX7 yX7_lengthOf yX7_lengthOf, Cond.code yX7_lengthOf cX7_lengthOf 3 (some .int), Cond.fieldLink RX7 29 "LoopEnvelopesModel" "long0" "[I", Cond.methodLink RX7 82 yX7_at, Cond.instanceMethod yX7_at, Cond.selects RX7 yX7_at yX7_at, Cond.code yX7_at cX7_at 3 (some .int), Cond.methodLink RX7 89 yX7_byteAt, Cond.instanceMethod yX7_byteAt, Cond.selects RX7 yX7_byteAt yX7_byteAt, Cond.code yX7_byteAt cX7_byteAt 4 (some .int), Cond.fieldLink RX7 17 "LoopEnvelopesModel" "was" "[I", Cond.fieldLink RX7 26 "LoopEnvelopesModel" "from" "[I", Cond.methodLink RX7 250 yX7_writeSet, Cond.instanceMethod yX7_writeSet, Cond.selects RX7 yX7_writeSet yX7_writeSet, Cond.code yX7_writeSet cX7_writeSet 5 none, Cond.fieldLink RX7 54 "LoopEnvelopesModel" "setFirst" "[I"]
def wsX7_answer_r3 : List Cond := [Cond.fieldLink RX7 57 "LoopEnvelopesModel" "setMany" "[I", Cond.fieldLink RX7 36 "LoopEnvelopesModel" "fault" "[I", Cond.methodLink RX7 247 yX7_writeNumber, Cond.instanceMethod yX7_writeNumber, Cond.selects RX7 yX7_writeNumber yX7_writeNumber, Cond.code yX7_writeNumber cX7_writeNumber 3 none, Cond.methodLink RX7 220 yX7_faults, Cond.instanceMethod yX7_faults, Cond.selects RX7 yX7_faults yX7_faults, Cond.code yX7_faults cX7_faults 4 (some .int)]
def wsX7_answer : List Cond := .code yX7_answer cX7_answer 2 (some .int) :: ((wsX7_answer_r1 ++ (wsX7_answer_r2 ++ wsX7_answer_r3)) ++ wsX70)
def wsX7_answered : List Cond := .code yX7_answered cX7_answered 2 (some .int) :: ([.fieldLink RX7 223 "LoopEnvelopesModel" "answered" "I", .fieldLink RX7 60 "LoopEnvelopesModel" "answer" "[I", .methodLink RX7 63 yX7_in, .static yX7_in, .initialized RX7, .code yX7_in cX7_in 3 (some .boolean)] ++ wsX70)
def wsX7_turn : List Cond := .code yX7_turn cX7_turn 2 (some .int) :: ([.fieldLink RX7 223 "LoopEnvelopesModel" "answered" "I", .fieldLink RX7 7 "LoopEnvelopesModel" "text" "[I", .fieldLink RX7 60 "LoopEnvelopesModel" "answer" "[I", .fieldLink RX7 67 "LoopEnvelopesModel" "size" "I"] ++ wsX70)
def wsL_law_r1 : List Cond := [Cond.classLink RL 7 RX6, Cond.instantiable RX6 7, Cond.initialized RX6, Cond.classLink RL 10 RX7, Cond.instantiable RX7 29, Cond.initialized RX7, Cond.constantLong RL 13 (4294967295), Cond.methodLink RL 9 yX6_init, Cond.instanceMethod yX6_init, Cond.code yX6_init cX6_init 1 none, Cond.methodLink RX6 3 objectInit, Cond.instanceMethod objectInit, Cond.code objectInit ⟨#[0xb1]⟩ 1 none, Cond.classLink RX6 9 RX0, Cond.instantiable RX0 2, Cond.initialized RX0, Cond.fieldLink RX6 14 "LoopEnvelopes" "text" "LLoopEnvelopes$Bytes;", Cond.classLink RX6 18 RX3, Cond.instantiable RX3 5, Cond.initialized RX3, Cond.fieldLink RX6 21 "LoopEnvelopes" "segments" "LLoopEnvelopes$Segments;", Cond.classLink RX6 25 RX1, Cond.instantiable RX1 6, Cond.initialized RX1]
def wsL_law_r2 : List Cond := [Cond.fieldLink RX6 30 "LoopEnvelopes" "frames" "LLoopEnvelopes$Frames;", Cond.classLink RX6 34 RX2, Cond.instantiable RX2 5, Cond.initialized RX2, Cond.fieldLink RX6 39 "LoopEnvelopes" "judge" "LLoopEnvelopes$Judge;", Cond.classLink RX6 43 RX5, Cond.instantiable RX5 3, Cond.initialized RX5, Cond.fieldLink RX6 46 "LoopEnvelopes" "writer" "LLoopEnvelopes$Writer;", Cond.fieldLink RX6 50 "LoopEnvelopes" "place" "I", Cond.fieldLink RX6 54 "LoopEnvelopes" "taken" "Z", Cond.methodLink RX6 11 yX0_init, Cond.instanceMethod yX0_init, Cond.code yX0_init cX0_init 2 none, Cond.methodLink RX0 3 objectInit, Cond.methodLink RX0 9 Lib.Math.max.name, Cond.static Lib.Math.max.name, Cond.initialized "java/lang/Math", Cond.code Lib.Math.max.name Lib.Math.max.code 2 (some .int), Cond.arrayClass .byte, Cond.fieldLink RX0 15 "LoopEnvelopes$Bytes" "cells" "[B", Cond.fieldLink RX0 21 "LoopEnvelopes$Bytes" "used" "I", Cond.methodLink RX6 20 yX3_init, Cond.instanceMethod yX3_init]
def wsL_law_r3 : List Cond := [Cond.code yX3_init cX3_init 1 none, Cond.methodLink RX3 3 objectInit, Cond.classLink RX3 9 RX0, Cond.fieldLink RX3 14 "LoopEnvelopes$Segments" "bytes" "LLoopEnvelopes$Bytes;", Cond.classLink RX3 20 RX4, Cond.instantiable RX4 3, Cond.initialized RX4, Cond.fieldLink RX3 25 "LoopEnvelopes$Segments" "begins" "LLoopEnvelopes$Table;", Cond.fieldLink RX3 29 "LoopEnvelopes$Segments" "names" "LLoopEnvelopes$Table;", Cond.fieldLink RX3 32 "LoopEnvelopes$Segments" "elements" "LLoopEnvelopes$Table;", Cond.fieldLink RX3 35 "LoopEnvelopes$Segments" "held" "I", Cond.methodLink RX3 11 yX0_init, Cond.methodLink RX3 22 yX4_init, Cond.instanceMethod yX4_init, Cond.code yX4_init cX4_init 3 none, Cond.methodLink RX4 3 objectInit, Cond.fieldLink RX4 9 "LoopEnvelopes$Table" "rows" "I", Cond.fieldLink RX4 15 "LoopEnvelopes$Table" "columns" "I", Cond.methodLink RX4 18 Lib.Math.max.name, Cond.arrayClass .int, Cond.fieldLink RX4 24 "LoopEnvelopes$Table" "cells" "[I", Cond.methodLink RX6 27 yX1_init, Cond.instanceMethod yX1_init, Cond.code yX1_init cX1_init 2 none]
def wsL_law_r4 : List Cond := [Cond.methodLink RX1 3 objectInit, Cond.fieldLink RX1 9 "LoopEnvelopes$Frames" "segments" "LLoopEnvelopes$Segments;", Cond.classLink RX1 15 RX4, Cond.fieldLink RX1 20 "LoopEnvelopes$Frames" "groups" "LLoopEnvelopes$Table;", Cond.fieldLink RX1 24 "LoopEnvelopes$Frames" "sets" "LLoopEnvelopes$Table;", Cond.fieldLink RX1 27 "LoopEnvelopes$Frames" "groupsHeld" "I", Cond.fieldLink RX1 31 "LoopEnvelopes$Frames" "setsHeld" "I", Cond.fieldLink RX1 34 "LoopEnvelopes$Frames" "stage" "I", Cond.methodLink RX1 17 yX4_init, Cond.methodLink RX6 36 yX2_init, Cond.instanceMethod yX2_init, Cond.code yX2_init cX2_init 3 none, Cond.methodLink RX2 3 objectInit, Cond.fieldLink RX2 9 "LoopEnvelopes$Judge" "segments" "LLoopEnvelopes$Segments;", Cond.fieldLink RX2 15 "LoopEnvelopes$Judge" "frames" "LLoopEnvelopes$Frames;", Cond.classLink RX2 19 RX4, Cond.fieldLink RX2 24 "LoopEnvelopes$Judge" "marks" "LLoopEnvelopes$Table;", Cond.fieldLink RX2 28 "LoopEnvelopes$Judge" "first" "I", Cond.fieldLink RX2 32 "LoopEnvelopes$Judge" "end" "I", Cond.methodLink RX2 21 yX4_init, Cond.methodLink RX6 45 yX5_init, Cond.instanceMethod yX5_init, Cond.code yX5_init cX5_init 2 none, Cond.methodLink RX5 3 objectInit]
def wsL_law_r5 : List Cond := [Cond.fieldLink RX5 9 "LoopEnvelopes$Writer" "segments" "LLoopEnvelopes$Segments;", Cond.classLink RX5 15 RX0, Cond.fieldLink RX5 20 "LoopEnvelopes$Writer" "bytes" "LLoopEnvelopes$Bytes;", Cond.fieldLink RX5 24 "LoopEnvelopes$Writer" "over" "Z", Cond.methodLink RX5 17 yX0_init, Cond.methodLink RL 12 yX7_init, Cond.instanceMethod yX7_init, Cond.code yX7_init cX7_init 1 none, Cond.methodLink RX7 1 objectInit, Cond.fieldLink RX7 7 "LoopEnvelopesModel" "text" "[I", Cond.fieldLink RX7 13 "LoopEnvelopesModel" "where" "I", Cond.fieldLink RX7 17 "LoopEnvelopesModel" "was" "[I", Cond.fieldLink RX7 20 "LoopEnvelopesModel" "nameOf" "[I", Cond.fieldLink RX7 23 "LoopEnvelopesModel" "elements" "[I", Cond.fieldLink RX7 26 "LoopEnvelopesModel" "from" "[I", Cond.fieldLink RX7 29 "LoopEnvelopesModel" "long0" "[I", Cond.arrayClass .boolean, Cond.fieldLink RX7 32 "LoopEnvelopesModel" "isIll" "[Z", Cond.fieldLink RX7 36 "LoopEnvelopesModel" "fault" "[I", Cond.fieldLink RX7 39 "LoopEnvelopesModel" "depth" "[I", Cond.fieldLink RX7 42 "LoopEnvelopesModel" "groupSegment" "[I", Cond.fieldLink RX7 45 "LoopEnvelopesModel" "groupFirst" "[I", Cond.fieldLink RX7 48 "LoopEnvelopesModel" "groupSets" "[I", Cond.fieldLink RX7 51 "LoopEnvelopesModel" "setGroup" "[I"]
def wsL_law_r6 : List Cond := [Cond.fieldLink RX7 54 "LoopEnvelopesModel" "setFirst" "[I", Cond.fieldLink RX7 57 "LoopEnvelopesModel" "setMany" "[I", Cond.fieldLink RX7 60 "LoopEnvelopesModel" "answer" "[I", Cond.methodLink RL 15 yX6_feed, Cond.instanceMethod yX6_feed, Cond.selects RX6 yX6_feed yX6_feed, Cond.code yX6_feed cX6_feed 5 (some .int), Cond.constantLong RX6 62 (255), Cond.methodLink RX6 58 yX0_length, Cond.instanceMethod yX0_length, Cond.selects RX0 yX0_length yX0_length, Cond.code yX0_length cX0_length 1 (some .int), Cond.methodLink RX6 64 yX0_append, Cond.instanceMethod yX0_append, Cond.selects RX0 yX0_append yX0_append, Cond.code yX0_append cX0_append 2 (some .boolean), Cond.methodLink RL 19 yX7_feed, Cond.instanceMethod yX7_feed, Cond.selects RX7 yX7_feed yX7_feed, Cond.code yX7_feed cX7_feed 5 (some .int), Cond.fieldLink RX7 67 "LoopEnvelopesModel" "size" "I", Cond.constantLong RX7 70 (255), Cond.methodLink RX7 63 yX7_in, Cond.static yX7_in]
def wsL_law_r7 : List Cond := [Cond.code yX7_in cX7_in 3 (some .boolean), Cond.methodLink RL 20 yX6_set, Cond.instanceMethod yX6_set, Cond.selects RX6 yX6_set yX6_set, Cond.code yX6_set cX6_set 4 (some .int), Cond.methodLink RX6 68 yX0_at, Cond.instanceMethod yX0_at, Cond.selects RX0 yX0_at yX0_at, Cond.code yX0_at cX0_at 2 (some .int), Cond.methodLink RX6 72 yX0_put, Cond.instanceMethod yX0_put, Cond.selects RX0 yX0_put yX0_put, Cond.code yX0_put cX0_put 3 none, Cond.methodLink RL 24 yX7_set, Cond.instanceMethod yX7_set, Cond.selects RX7 yX7_set yX7_set, Cond.code yX7_set cX7_set 4 (some .int), Cond.methodLink RL 25 yX6_cut, Cond.instanceMethod yX6_cut, Cond.selects RX6 yX6_cut yX6_cut, Cond.code yX6_cut cX6_cut 3 (some .int), Cond.methodLink RX6 76 yX0_shorten, Cond.instanceMethod yX0_shorten, Cond.selects RX0 yX0_shorten yX0_shorten]
def wsL_law_r8 : List Cond := [Cond.code yX0_shorten cX0_shorten 2 none, Cond.methodLink RX0 25 Lib.Math.min.name, Cond.static Lib.Math.min.name, Cond.code Lib.Math.min.name Lib.Math.min.code 2 (some .int), Cond.methodLink RL 29 yX7_cut, Cond.instanceMethod yX7_cut, Cond.selects RX7 yX7_cut yX7_cut, Cond.code yX7_cut cX7_cut 3 (some .int), Cond.methodLink RL 30 yX6_read, Cond.instanceMethod yX6_read, Cond.selects RX6 yX6_read yX6_read, Cond.code yX6_read cX6_read 3 (some .int), Cond.methodLink RX6 79 yX3_take, Cond.instanceMethod yX3_take, Cond.selects RX3 yX3_take yX3_take, Cond.code yX3_take cX3_take 2 none, Cond.methodLink RX3 39 yX0_become, Cond.instanceMethod yX0_become, Cond.selects RX0 yX0_become yX0_become, Cond.code yX0_become cX0_become 3 none, Cond.methodLink RX0 28 yX0_at, Cond.methodLink RX0 32 yX0_append, Cond.methodLink RX6 83 yX1_clear, Cond.instanceMethod yX1_clear]
def wsL_law_r9 : List Cond := [Cond.selects RX1 yX1_clear yX1_clear, Cond.code yX1_clear cX1_clear 1 none, Cond.methodLink RX6 86 yX3_opens, Cond.instanceMethod yX3_opens, Cond.selects RX3 yX3_opens yX3_opens, Cond.code yX3_opens cX3_opens 4 (some .boolean), Cond.methodLink RX3 55 yX3_splitter, Cond.instanceMethod yX3_splitter, Cond.selects RX3 yX3_splitter yX3_splitter, Cond.code yX3_splitter cX3_splitter 1 (some .int), Cond.methodLink RX3 47 yX0_at, Cond.methodLink RX3 58 yX3_closer, Cond.instanceMethod yX3_closer, Cond.selects RX3 yX3_closer yX3_closer, Cond.code yX3_closer cX3_closer 1 (some .int), Cond.methodLink RX3 43 yX0_length, Cond.methodLink RX3 61 yX3_number, Cond.instanceMethod yX3_number, Cond.selects RX3 yX3_number yX3_number, Cond.code yX3_number cX3_number 1 (some .int), Cond.methodLink RX3 51 yX3_numberAt, Cond.instanceMethod yX3_numberAt, Cond.selects RX3 yX3_numberAt yX3_numberAt, Cond.code yX3_numberAt cX3_numberAt 6 (some .int)]
def wsL_law_r10 : List Cond := [Cond.methodLink RX3 64 yX3_separates, Cond.static yX3_separates, Cond.code yX3_separates cX3_separates 4 (some .boolean), Cond.methodLink RX3 68 yX3_isBreak, Cond.static yX3_isBreak, Cond.code yX3_isBreak cX3_isBreak 1 (some .boolean), Cond.methodLink RX6 90 yX6_scan, Cond.instanceMethod yX6_scan, Cond.selects RX6 yX6_scan yX6_scan, Cond.code yX6_scan cX6_scan 4 (some .int), Cond.methodLink RX6 173 yX3_behindBreaks, Cond.instanceMethod yX3_behindBreaks, Cond.selects RX3 yX3_behindBreaks yX3_behindBreaks, Cond.code yX3_behindBreaks cX3_behindBreaks 3 (some .int), Cond.methodLink RX6 176 yX1_areClosed, Cond.instanceMethod yX1_areClosed, Cond.selects RX1 yX1_areClosed yX1_areClosed, Cond.code yX1_areClosed cX1_areClosed 1 (some .boolean), Cond.methodLink RX6 179 yX3_length, Cond.instanceMethod yX3_length, Cond.selects RX3 yX3_length yX3_length, Cond.code yX3_length cX3_length 1 (some .int), Cond.methodLink RX6 93 yX6_tell, Cond.instanceMethod yX6_tell]
def wsL_law_r11 : List Cond := [Cond.selects RX6 yX6_tell yX6_tell, Cond.code yX6_tell cX6_tell 3 (some .int), Cond.methodLink RX6 180 yX3_closerFrom, Cond.instanceMethod yX3_closerFrom, Cond.selects RX3 yX3_closerFrom yX3_closerFrom, Cond.code yX3_closerFrom cX3_closerFrom 3 (some .int), Cond.methodLink RX6 183 yX3_keep, Cond.instanceMethod yX3_keep, Cond.selects RX3 yX3_keep yX3_keep, Cond.code yX3_keep cX3_keep 6 (some .boolean), Cond.methodLink RX3 71 yX4_put, Cond.instanceMethod yX4_put, Cond.selects RX4 yX4_put yX4_put, Cond.code yX4_put cX4_put 5 none, Cond.methodLink RX3 75 yX3_widthOf, Cond.instanceMethod yX3_widthOf, Cond.selects RX3 yX3_widthOf yX3_widthOf, Cond.code yX3_widthOf cX3_widthOf 3 (some .int), Cond.methodLink RX3 81 yX4_at, Cond.instanceMethod yX4_at, Cond.selects RX4 yX4_at yX4_at, Cond.code yX4_at cX4_at 4 (some .int), Cond.methodLink RX3 78 yX3_nameAt, Cond.instanceMethod yX3_nameAt]
def wsL_law_r12 : List Cond := [Cond.selects RX3 yX3_nameAt yX3_nameAt, Cond.code yX3_nameAt cX3_nameAt 3 (some .int), Cond.methodLink RX6 187 yX1_admit, Cond.instanceMethod yX1_admit, Cond.selects RX1 yX1_admit yX1_admit, Cond.code yX1_admit cX1_admit 3 (some .boolean), Cond.constant RX1 55 (4674128), Cond.constant RX1 60 (4410451), Cond.constant RX1 64 (5457236), Cond.constant RX1 68 (4670798), Cond.methodLink RX1 51 yX3_nameOf, Cond.instanceMethod yX3_nameOf, Cond.selects RX3 yX3_nameOf yX3_nameOf, Cond.code yX3_nameOf cX3_nameOf 2 (some .int), Cond.methodLink RX1 56 yX1_beginGroup, Cond.instanceMethod yX1_beginGroup, Cond.selects RX1 yX1_beginGroup yX1_beginGroup, Cond.code yX1_beginGroup cX1_beginGroup 5 (some .boolean), Cond.methodLink RX1 75 yX3_byteIn, Cond.instanceMethod yX3_byteIn, Cond.selects RX3 yX3_byteIn yX3_byteIn, Cond.code yX3_byteIn cX3_byteIn 4 (some .int), Cond.methodLink RX1 79 yX3_figures, Cond.instanceMethod yX3_figures]
def wsL_law_r13 : List Cond := [Cond.selects RX3 yX3_figures yX3_figures, Cond.code yX3_figures cX3_figures 5 (some .int), Cond.methodLink RX1 82 yX3_elementsOf, Cond.instanceMethod yX3_elementsOf, Cond.selects RX3 yX3_elementsOf yX3_elementsOf, Cond.code yX3_elementsOf cX3_elementsOf 2 (some .int), Cond.methodLink RX1 85 yX3_widthOf, Cond.methodLink RX1 88 yX1_isLetter, Cond.static yX1_isLetter, Cond.code yX1_isLetter cX1_isLetter 1 (some .boolean), Cond.methodLink RX1 41 yX4_put, Cond.methodLink RX1 61 yX1_endAll, Cond.instanceMethod yX1_endAll, Cond.selects RX1 yX1_endAll yX1_endAll, Cond.code yX1_endAll cX1_endAll 2 (some .boolean), Cond.methodLink RX1 96 yX3_number, Cond.methodLink RX1 92 yX1_tells, Cond.instanceMethod yX1_tells, Cond.selects RX1 yX1_tells yX1_tells, Cond.code yX1_tells cX1_tells 4 (some .boolean), Cond.methodLink RX1 65 yX1_beginSet, Cond.instanceMethod yX1_beginSet, Cond.selects RX1 yX1_beginSet yX1_beginSet, Cond.code yX1_beginSet cX1_beginSet 3 (some .boolean)]
def wsL_law_r14 : List Cond := [Cond.methodLink RX1 37 yX4_at, Cond.methodLink RX1 69 yX1_endGroup, Cond.instanceMethod yX1_endGroup, Cond.selects RX1 yX1_endGroup yX1_endGroup, Cond.code yX1_endGroup cX1_endGroup 3 (some .boolean), Cond.methodLink RX1 72 yX1_goOnInSet, Cond.instanceMethod yX1_goOnInSet, Cond.selects RX1 yX1_goOnInSet yX1_goOnInSet, Cond.code yX1_goOnInSet cX1_goOnInSet 3 (some .boolean), Cond.constant RX1 91 (4542020), Cond.methodLink RX6 97 yX1_setsHeld, Cond.instanceMethod yX1_setsHeld, Cond.selects RX1 yX1_setsHeld yX1_setsHeld, Cond.code yX1_setsHeld cX1_setsHeld 1 (some .int), Cond.methodLink RX6 100 yX2_judgeSet, Cond.instanceMethod yX2_judgeSet, Cond.selects RX2 yX2_judgeSet yX2_judgeSet, Cond.code yX2_judgeSet cX2_judgeSet 6 none, Cond.constant RX2 78 (4410445), Cond.constant RX2 79 (5002828), Cond.methodLink RX2 49 yX1_ofSet, Cond.instanceMethod yX1_ofSet, Cond.selects RX1 yX1_ofSet yX1_ofSet, Cond.code yX1_ofSet cX1_ofSet 3 (some .int)]
def wsL_law_r15 : List Cond := [Cond.methodLink RX2 61 yX2_markForm, Cond.instanceMethod yX2_markForm, Cond.selects RX2 yX2_markForm yX2_markForm, Cond.code yX2_markForm cX2_markForm 5 none, Cond.constant RX2 39 (4999502), Cond.methodLink RX2 75 yX3_nameOf, Cond.methodLink RX2 87 yX2_isWellFormed, Cond.instanceMethod yX2_isWellFormed, Cond.selects RX2 yX2_isWellFormed yX2_isWellFormed, Cond.code yX2_isWellFormed cX2_isWellFormed 4 (some .boolean), Cond.constant RX2 110 (-10000000), Cond.methodLink RX2 91 yX3_elementsOf, Cond.methodLink RX2 97 yX3_widthOf, Cond.methodLink RX2 100 yX3_figures, Cond.methodLink RX2 103 yX2_isLevelForm, Cond.instanceMethod yX2_isLevelForm, Cond.selects RX2 yX2_isLevelForm yX2_isLevelForm, Cond.code yX2_isLevelForm cX2_isLevelForm 5 (some .boolean), Cond.methodLink RX2 107 yX3_isWord, Cond.instanceMethod yX3_isWord, Cond.selects RX3 yX3_isWord yX3_isWord, Cond.code yX3_isWord cX3_isWord 4 (some .boolean), Cond.methodLink RX2 94 yX3_amount, Cond.instanceMethod yX3_amount]
def wsL_law_r16 : List Cond := [Cond.selects RX3 yX3_amount yX3_amount, Cond.code yX3_amount cX3_amount 9 (some .int), Cond.constant RX3 95 (-10000000), Cond.methodLink RX3 88 yX3_byteIn, Cond.methodLink RX2 111 yX3_isCode, Cond.instanceMethod yX3_isCode, Cond.selects RX3 yX3_isCode yX3_isCode, Cond.code yX3_isCode cX3_isCode 7 (some .boolean), Cond.methodLink RX3 83 Lib.Math.max.name, Cond.methodLink RX3 92 Lib.Math.min.name, Cond.methodLink RX2 68 yX4_put, Cond.methodLink RX2 65 yX2_findFault, Cond.instanceMethod yX2_findFault, Cond.selects RX2 yX2_findFault yX2_findFault, Cond.code yX2_findFault cX2_findFault 3 (some .int), Cond.constant RX2 123 (4542020), Cond.methodLink RX2 114 yX2_belongs, Cond.static yX2_belongs, Cond.code yX2_belongs cX2_belongs 1 (some .boolean), Cond.constant RX2 148 (5457236), Cond.constant RX2 149 (5128525), Cond.methodLink RX2 117 yX2_isOutOfOrder, Cond.instanceMethod yX2_isOutOfOrder, Cond.selects RX2 yX2_isOutOfOrder yX2_isOutOfOrder]
def wsL_law_r17 : List Cond := [Cond.code yX2_isOutOfOrder cX2_isOutOfOrder 4 (some .boolean), Cond.methodLink RX2 150 yX3_lastOf, Cond.instanceMethod yX3_lastOf, Cond.selects RX3 yX3_lastOf yX3_lastOf, Cond.code yX3_lastOf cX3_lastOf 5 (some .int), Cond.methodLink RX2 120 yX2_isIll, Cond.instanceMethod yX2_isIll, Cond.selects RX2 yX2_isIll yX2_isIll, Cond.code yX2_isIll cX2_isIll 2 (some .boolean), Cond.methodLink RX2 35 yX4_at, Cond.methodLink RX2 124 yX2_isWrongEnd, Cond.instanceMethod yX2_isWrongEnd, Cond.selects RX2 yX2_isWrongEnd yX2_isWrongEnd, Cond.code yX2_isWrongEnd cX2_isWrongEnd 3 (some .boolean), Cond.methodLink RX2 127 yX2_isLevelUnlinked, Cond.instanceMethod yX2_isLevelUnlinked, Cond.selects RX2 yX2_isLevelUnlinked yX2_isLevelUnlinked, Cond.code yX2_isLevelUnlinked cX2_isLevelUnlinked 4 (some .boolean), Cond.methodLink RX2 80 yX3_tally, Cond.instanceMethod yX3_tally, Cond.selects RX3 yX3_tally yX3_tally, Cond.code yX3_tally cX3_tally 6 (some .int), Cond.methodLink RX2 142 yX2_parentOf, Cond.instanceMethod yX2_parentOf]
def wsL_law_r18 : List Cond := [Cond.selects RX2 yX2_parentOf yX2_parentOf, Cond.code yX2_parentOf cX2_parentOf 3 (some .int), Cond.methodLink RX2 153 yX3_nthOf, Cond.instanceMethod yX3_nthOf, Cond.selects RX3 yX3_nthOf yX3_nthOf, Cond.code yX3_nthOf cX3_nthOf 7 (some .int), Cond.methodLink RX2 145 yX2_depthOf, Cond.instanceMethod yX2_depthOf, Cond.selects RX2 yX2_depthOf yX2_depthOf, Cond.code yX2_depthOf cX2_depthOf 2 (some .int), Cond.methodLink RX2 130 yX2_isMoreWrong, Cond.instanceMethod yX2_isMoreWrong, Cond.selects RX2 yX2_isMoreWrong yX2_isMoreWrong, Cond.code yX2_isMoreWrong cX2_isMoreWrong 5 (some .boolean), Cond.methodLink RX2 133 yX2_isClaimUnlinked, Cond.instanceMethod yX2_isClaimUnlinked, Cond.selects RX2 yX2_isClaimUnlinked yX2_isClaimUnlinked, Cond.code yX2_isClaimUnlinked cX2_isClaimUnlinked 5 (some .boolean), Cond.methodLink RX2 136 yX2_lineSum, Cond.instanceMethod yX2_lineSum, Cond.selects RX2 yX2_lineSum yX2_lineSum, Cond.code yX2_lineSum cX2_lineSum 5 (some .int), Cond.methodLink RX2 40 yX3_endOfRun, Cond.instanceMethod yX3_endOfRun]
def wsL_law_r19 : List Cond := [Cond.selects RX3 yX3_endOfRun yX3_endOfRun, Cond.code yX3_endOfRun cX3_endOfRun 4 (some .int), Cond.methodLink RX2 45 yX2_amountOf, Cond.instanceMethod yX2_amountOf, Cond.selects RX2 yX2_amountOf yX2_amountOf, Cond.code yX2_amountOf cX2_amountOf 2 (some .int), Cond.methodLink RX2 139 yX2_isLineUnlinked, Cond.instanceMethod yX2_isLineUnlinked, Cond.selects RX2 yX2_isLineUnlinked yX2_isLineUnlinked, Cond.code yX2_isLineUnlinked cX2_isLineUnlinked 3 (some .boolean), Cond.methodLink RX2 157 Lib.Math.max.name, Cond.methodLink RX2 72 yX2_findDepth, Cond.instanceMethod yX2_findDepth, Cond.selects RX2 yX2_findDepth yX2_findDepth, Cond.code yX2_findDepth cX2_findDepth 3 (some .int), Cond.methodLink RX2 84 yX1_noteOfSet, Cond.instanceMethod yX1_noteOfSet, Cond.selects RX1 yX1_noteOfSet yX1_noteOfSet, Cond.code yX1_noteOfSet cX1_noteOfSet 4 none, Cond.methodLink RL 34 yX7_read, Cond.instanceMethod yX7_read, Cond.selects RX7 yX7_read yX7_read, Cond.code yX7_read cX7_read 5 (some .int), Cond.fieldLink RX7 123 "LoopEnvelopesModel" "e" "I"]
def wsL_law_r20 : List Cond := [Cond.fieldLink RX7 97 "LoopEnvelopesModel" "p" "I", Cond.fieldLink RX7 154 "LoopEnvelopesModel" "s" "I", Cond.fieldLink RX7 141 "LoopEnvelopesModel" "number" "I", Cond.fieldLink RX7 157 "LoopEnvelopesModel" "segments" "I", Cond.fieldLink RX7 132 "LoopEnvelopesModel" "groups" "I", Cond.fieldLink RX7 135 "LoopEnvelopesModel" "sets" "I", Cond.fieldLink RX7 129 "LoopEnvelopesModel" "state" "I", Cond.fieldLink RX7 119 "LoopEnvelopesModel" "isTaken" "Z", Cond.methodLink RX7 147 yX7_isOpening, Cond.instanceMethod yX7_isOpening, Cond.selects RX7 yX7_isOpening yX7_isOpening, Cond.code yX7_isOpening cX7_isOpening 3 (some .boolean), Cond.methodLink RX7 76 yX7_isFigure, Cond.static yX7_isFigure, Cond.code yX7_isFigure cX7_isFigure 1 (some .boolean), Cond.methodLink RX7 79 yX7_isMark, Cond.static yX7_isMark, Cond.code yX7_isMark cX7_isMark 1 (some .boolean), Cond.methodLink RX7 72 yX7_isLetter, Cond.static yX7_isLetter, Cond.code yX7_isLetter cX7_isLetter 1 (some .boolean), Cond.methodLink RX7 151 yX7_found, Cond.instanceMethod yX7_found, Cond.selects RX7 yX7_found yX7_found]
def wsL_law_r21 : List Cond := [Cond.code yX7_found cX7_found 3 (some .int), Cond.methodLink RX7 160 yX7_isEnd, Cond.static yX7_isEnd, Cond.code yX7_isEnd cX7_isEnd 1 (some .boolean), Cond.methodLink RX7 163 yX7_split, Cond.instanceMethod yX7_split, Cond.selects RX7 yX7_split yX7_split, Cond.code yX7_split cX7_split 7 (some .boolean), Cond.methodLink RX7 82 yX7_at, Cond.instanceMethod yX7_at, Cond.selects RX7 yX7_at yX7_at, Cond.code yX7_at cX7_at 3 (some .int), Cond.methodLink RX7 166 yX7_findName, Cond.instanceMethod yX7_findName, Cond.selects RX7 yX7_findName yX7_findName, Cond.code yX7_findName cX7_findName 2 (some .int), Cond.methodLink RX7 93 yX7_isName, Cond.instanceMethod yX7_isName, Cond.selects RX7 yX7_isName yX7_isName, Cond.code yX7_isName cX7_isName 5 (some .boolean), Cond.methodLink RX7 86 yX7_lengthOf, Cond.instanceMethod yX7_lengthOf, Cond.selects RX7 yX7_lengthOf yX7_lengthOf, Cond.code yX7_lengthOf cX7_lengthOf 3 (some .int)]
def wsL_law_r22 : List Cond := [Cond.methodLink RX7 89 yX7_byteAt, Cond.instanceMethod yX7_byteAt, Cond.selects RX7 yX7_byteAt yX7_byteAt, Cond.code yX7_byteAt cX7_byteAt 4 (some .int), Cond.methodLink RX7 170 yX7_stands, Cond.instanceMethod yX7_stands, Cond.selects RX7 yX7_stands yX7_stands, Cond.code yX7_stands cX7_stands 4 (some .boolean), Cond.methodLink RX7 100 yX7_hasFigures, Cond.instanceMethod yX7_hasFigures, Cond.selects RX7 yX7_hasFigures yX7_hasFigures, Cond.code yX7_hasFigures cX7_hasFigures 8 (some .boolean), Cond.methodLink RX7 138 yX7_isCount, Cond.instanceMethod yX7_isCount, Cond.selects RX7 yX7_isCount yX7_isCount, Cond.code yX7_isCount cX7_isCount 3 (some .boolean), Cond.methodLink RX7 126 yX7_numberOf, Cond.instanceMethod yX7_numberOf, Cond.selects RX7 yX7_numberOf yX7_numberOf, Cond.code yX7_numberOf cX7_numberOf 5 (some .int), Cond.methodLink RX7 144 yX7_isNumber, Cond.instanceMethod yX7_isNumber, Cond.selects RX7 yX7_isNumber yX7_isNumber, Cond.code yX7_isNumber cX7_isNumber 3 (some .boolean)]
def wsL_law_r23 : List Cond := [Cond.methodLink RX7 173 yX7_judge, Cond.instanceMethod yX7_judge, Cond.selects RX7 yX7_judge yX7_judge, Cond.code yX7_judge cX7_judge 5 none, Cond.methodLink RX7 214 yX7_isWell, Cond.instanceMethod yX7_isWell, Cond.selects RX7 yX7_isWell yX7_isWell, Cond.code yX7_isWell cX7_isWell 3 (some .boolean), Cond.methodLink RX7 103 yX7_isKind, Cond.instanceMethod yX7_isKind, Cond.selects RX7 yX7_isKind yX7_isKind, Cond.code yX7_isKind cX7_isKind 3 (some .boolean), Cond.methodLink RX7 107 yX7_isMore, Cond.instanceMethod yX7_isMore, Cond.selects RX7 yX7_isMore yX7_isMore, Cond.code yX7_isMore cX7_isMore 3 (some .boolean), Cond.methodLink RX7 110 yX7_isWord, Cond.instanceMethod yX7_isWord, Cond.selects RX7 yX7_isWord yX7_isWord, Cond.code yX7_isWord cX7_isWord 3 (some .boolean), Cond.methodLink RX7 113 yX7_isAmount, Cond.instanceMethod yX7_isAmount, Cond.selects RX7 yX7_isAmount yX7_isAmount, Cond.code yX7_isAmount cX7_isAmount 7 (some .boolean)]
def wsL_law_r24 : List Cond := [Cond.methodLink RX7 116 yX7_isCode, Cond.instanceMethod yX7_isCode, Cond.selects RX7 yX7_isCode yX7_isCode, Cond.code yX7_isCode cX7_isCode 7 (some .boolean), Cond.methodLink RX7 217 yX7_faultOf, Cond.instanceMethod yX7_faultOf, Cond.selects RX7 yX7_faultOf yX7_faultOf, Cond.code yX7_faultOf cX7_faultOf 4 (some .int), Cond.methodLink RX7 202 yX7_isOrder, Cond.instanceMethod yX7_isOrder, Cond.selects RX7 yX7_isOrder yX7_isOrder, Cond.code yX7_isOrder cX7_isOrder 4 (some .boolean), Cond.methodLink RX7 183 yX7_ahead, Cond.instanceMethod yX7_ahead, Cond.selects RX7 yX7_ahead yX7_ahead, Cond.code yX7_ahead cX7_ahead 5 (some .int), Cond.methodLink RX7 205 yX7_isLinked, Cond.instanceMethod yX7_isLinked, Cond.selects RX7 yX7_isLinked yX7_isLinked, Cond.code yX7_isLinked cX7_isLinked 5 (some .boolean), Cond.methodLink RX7 192 yX7_many, Cond.instanceMethod yX7_many, Cond.selects RX7 yX7_many yX7_many, Cond.code yX7_many cX7_many 6 (some .int)]
def wsL_law_r25 : List Cond := [Cond.methodLink RX7 180 yX7_kindOf, Cond.instanceMethod yX7_kindOf, Cond.selects RX7 yX7_kindOf yX7_kindOf, Cond.code yX7_kindOf cX7_kindOf 2 (some .int), Cond.methodLink RX7 195 yX7_levelBy, Cond.instanceMethod yX7_levelBy, Cond.selects RX7 yX7_levelBy yX7_levelBy, Cond.code yX7_levelBy cX7_levelBy 6 (some .int), Cond.methodLink RX7 177 yX7_isLoose, Cond.instanceMethod yX7_isLoose, Cond.selects RX7 yX7_isLoose yX7_isLoose, Cond.code yX7_isLoose cX7_isLoose 2 (some .boolean), Cond.methodLink RX7 199 yX7_linesAhead, Cond.instanceMethod yX7_linesAhead, Cond.selects RX7 yX7_linesAhead yX7_linesAhead, Cond.code yX7_linesAhead cX7_linesAhead 5 (some .int), Cond.methodLink RX7 208 yX7_hasUnder, Cond.instanceMethod yX7_hasUnder, Cond.selects RX7 yX7_hasUnder yX7_hasUnder, Cond.code yX7_hasUnder cX7_hasUnder 4 (some .boolean), Cond.methodLink RX7 189 yX7_amountOf, Cond.instanceMethod yX7_amountOf, Cond.selects RX7 yX7_amountOf yX7_amountOf, Cond.code yX7_amountOf cX7_amountOf 7 (some .int)]
def wsL_law_r26 : List Cond := [Cond.methodLink RX7 211 yX7_linesSum, Cond.instanceMethod yX7_linesSum, Cond.selects RX7 yX7_linesSum yX7_linesSum, Cond.code yX7_linesSum cX7_linesSum 5 (some .int), Cond.methodLink RX7 186 yX7_linesEnd, Cond.instanceMethod yX7_linesEnd, Cond.selects RX7 yX7_linesEnd yX7_linesEnd, Cond.code yX7_linesEnd cX7_linesEnd 4 (some .int), Cond.methodLink RL 35 yX6_where, Cond.instanceMethod yX6_where, Cond.selects RX6 yX6_where yX6_where, Cond.code yX6_where cX6_where 1 (some .int), Cond.methodLink RL 38 yX7_where, Cond.instanceMethod yX7_where, Cond.selects RX7 yX7_where yX7_where, Cond.code yX7_where cX7_where 1 (some .int), Cond.methodLink RL 39 yX6_count, Cond.instanceMethod yX6_count, Cond.selects RX6 yX6_count yX6_count, Cond.code yX6_count cX6_count 2 (some .int), Cond.methodLink RX6 103 yX5_length, Cond.instanceMethod yX5_length, Cond.selects RX5 yX5_length yX5_length, Cond.code yX5_length cX5_length 1 (some .int)]
def wsL_law_r27 : List Cond := [Cond.methodLink RX5 28 yX0_length, Cond.methodLink RX6 104 yX3_held, Cond.instanceMethod yX3_held, Cond.selects RX3 yX3_held yX3_held, Cond.code yX3_held cX3_held 1 (some .int), Cond.methodLink RX6 107 yX1_groupsHeld, Cond.instanceMethod yX1_groupsHeld, Cond.selects RX1 yX1_groupsHeld yX1_groupsHeld, Cond.code yX1_groupsHeld cX1_groupsHeld 1 (some .int), Cond.methodLink RX6 110 yX2_rightAmong, Cond.instanceMethod yX2_rightAmong, Cond.selects RX2 yX2_rightAmong yX2_rightAmong, Cond.code yX2_rightAmong cX2_rightAmong 5 (some .int), Cond.methodLink RX6 113 yX3_number, Cond.methodLink RL 42 yX7_count, Cond.instanceMethod yX7_count, Cond.selects RX7 yX7_count yX7_count, Cond.code yX7_count cX7_count 2 (some .int), Cond.fieldLink RX7 223 "LoopEnvelopesModel" "answered" "I", Cond.methodLink RX7 226 yX7_right, Cond.instanceMethod yX7_right, Cond.selects RX7 yX7_right yX7_right, Cond.code yX7_right cX7_right 3 (some .int), Cond.methodLink RX7 220 yX7_faults]
def wsL_law_r28 : List Cond := [Cond.instanceMethod yX7_faults, Cond.selects RX7 yX7_faults yX7_faults, Cond.code yX7_faults cX7_faults 4 (some .int), Cond.methodLink RL 43 yX6_group, Cond.instanceMethod yX6_group, Cond.selects RX6 yX6_group yX6_group, Cond.code yX6_group cX6_group 3 (some .int), Cond.methodLink RX6 116 yX1_ofGroup, Cond.instanceMethod yX1_ofGroup, Cond.selects RX1 yX1_ofGroup yX1_ofGroup, Cond.code yX1_ofGroup cX1_ofGroup 3 (some .int), Cond.methodLink RL 46 yX7_group, Cond.instanceMethod yX7_group, Cond.selects RX7 yX7_group yX7_group, Cond.code yX7_group cX7_group 4 (some .int), Cond.methodLink RL 47 yX6_setOf, Cond.instanceMethod yX6_setOf, Cond.selects RX6 yX6_setOf yX6_setOf, Cond.code yX6_setOf cX6_setOf 3 (some .int), Cond.methodLink RX6 119 yX1_ofSet, Cond.methodLink RL 50 yX7_setOf, Cond.instanceMethod yX7_setOf, Cond.selects RX7 yX7_setOf yX7_setOf, Cond.code yX7_setOf cX7_setOf 7 (some .int)]
def wsL_law_r29 : List Cond := [Cond.methodLink RL 51 yX6_fault, Cond.instanceMethod yX6_fault, Cond.selects RX6 yX6_fault yX6_fault, Cond.code yX6_fault cX6_fault 5 (some .int), Cond.methodLink RX6 122 yX2_faulty, Cond.instanceMethod yX2_faulty, Cond.selects RX2 yX2_faulty yX2_faulty, Cond.code yX2_faulty cX2_faulty 6 (some .int), Cond.methodLink RX2 54 yX1_setsHeld, Cond.methodLink RX2 58 yX2_faultOf, Cond.instanceMethod yX2_faultOf, Cond.selects RX2 yX2_faultOf yX2_faultOf, Cond.code yX2_faultOf cX2_faultOf 2 (some .int), Cond.methodLink RX6 125 yX2_faultOf, Cond.methodLink RL 55 yX7_fault, Cond.instanceMethod yX7_fault, Cond.selects RX7 yX7_fault yX7_fault, Cond.code yX7_fault cX7_fault 5 (some .int), Cond.methodLink RX7 230 yX7_pick, Cond.instanceMethod yX7_pick, Cond.selects RX7 yX7_pick yX7_pick, Cond.code yX7_pick cX7_pick 7 (some .int), Cond.methodLink RL 56 yX6_level, Cond.instanceMethod yX6_level]
def wsL_law_r30 : List Cond := [Cond.selects RX6 yX6_level yX6_level, Cond.code yX6_level cX6_level 5 (some .int), Cond.constant RX6 128 (5002828), Cond.methodLink RX6 129 yX1_nthInSet, Cond.instanceMethod yX1_nthInSet, Cond.selects RX1 yX1_nthInSet yX1_nthInSet, Cond.code yX1_nthInSet cX1_nthInSet 5 (some .int), Cond.methodLink RX1 45 yX3_nthOf, Cond.methodLink RX6 133 yX2_depthOf, Cond.methodLink RX6 136 yX2_isIll, Cond.methodLink RX6 139 yX3_levelValue, Cond.instanceMethod yX3_levelValue, Cond.selects RX3 yX3_levelValue yX3_levelValue, Cond.code yX3_levelValue cX3_levelValue 3 (some .int), Cond.methodLink RX3 96 yX3_figures, Cond.methodLink RL 59 yX7_level, Cond.instanceMethod yX7_level, Cond.selects RX7 yX7_level yX7_level, Cond.code yX7_level cX7_level 5 (some .int), Cond.methodLink RL 60 yX6_claim, Cond.instanceMethod yX6_claim, Cond.selects RX6 yX6_claim yX6_claim, Cond.code yX6_claim cX6_claim 6 (some .int), Cond.constant RX6 142 (4410445)]
def wsL_law_r31 : List Cond := [Cond.constant RX6 149 (4999502), Cond.methodLink RX6 143 yX2_amountOf, Cond.methodLink RX6 146 yX3_tally, Cond.methodLink RX6 150 yX3_endOfRun, Cond.methodLink RX6 153 yX2_lineSum, Cond.methodLink RL 63 yX7_claim, Cond.instanceMethod yX7_claim, Cond.selects RX7 yX7_claim yX7_claim, Cond.code yX7_claim cX7_claim 7 (some .int), Cond.methodLink RL 64 yX6_size, Cond.instanceMethod yX6_size, Cond.selects RX6 yX6_size yX6_size, Cond.code yX6_size cX6_size 3 (some .int), Cond.methodLink RX6 156 yX3_widthOf, Cond.methodLink RL 67 yX7_size, Cond.instanceMethod yX7_size, Cond.selects RX7 yX7_size yX7_size, Cond.code yX7_size cX7_size 3 (some .int), Cond.methodLink RL 68 yX6_byteOf, Cond.instanceMethod yX6_byteOf, Cond.selects RX6 yX6_byteOf yX6_byteOf, Cond.code yX6_byteOf cX6_byteOf 5 (some .int), Cond.methodLink RX6 159 yX3_byteIn, Cond.methodLink RL 71 yX7_byteOf]
def wsL_law_r32 : List Cond := [Cond.instanceMethod yX7_byteOf, Cond.selects RX7 yX7_byteOf yX7_byteOf, Cond.code yX7_byteOf cX7_byteOf 4 (some .int), Cond.methodLink RL 72 yX6_answer, Cond.instanceMethod yX6_answer, Cond.selects RX6 yX6_answer yX6_answer, Cond.code yX6_answer cX6_answer 2 (some .int), Cond.methodLink RX6 162 yX5_clear, Cond.instanceMethod yX5_clear, Cond.selects RX5 yX5_clear yX5_clear, Cond.code yX5_clear cX5_clear 1 none, Cond.methodLink RX5 40 yX0_shorten, Cond.methodLink RX6 163 yX6_writeGroup, Cond.instanceMethod yX6_writeGroup, Cond.selects RX6 yX6_writeGroup yX6_writeGroup, Cond.code yX6_writeGroup cX6_writeGroup 6 none, Cond.constant RX6 190 (4278098), Cond.constant RX6 203 (4278085), Cond.methodLink RX6 191 yX5_begin, Cond.instanceMethod yX5_begin, Cond.selects RX5 yX5_begin yX5_begin, Cond.code yX5_begin cX5_begin 2 none, Cond.methodLink RX5 46 yX5_add, Cond.instanceMethod yX5_add]
def wsL_law_r33 : List Cond := [Cond.selects RX5 yX5_add yX5_add, Cond.code yX5_add cX5_add 2 none, Cond.methodLink RX5 65 yX0_append, Cond.methodLink RX6 194 yX5_element, Cond.instanceMethod yX5_element, Cond.selects RX5 yX5_element yX5_element, Cond.code yX5_element cX5_element 5 none, Cond.methodLink RX5 49 yX3_splitter, Cond.methodLink RX5 54 yX3_widthOf, Cond.methodLink RX5 58 yX3_byteIn, Cond.methodLink RX6 197 yX5_close, Cond.instanceMethod yX5_close, Cond.selects RX5 yX5_close yX5_close, Cond.code yX5_close cX5_close 1 none, Cond.methodLink RX5 62 yX3_closer, Cond.methodLink RX6 200 yX6_writeSet, Cond.instanceMethod yX6_writeSet, Cond.selects RX6 yX6_writeSet yX6_writeSet, Cond.code yX6_writeSet cX6_writeSet 6 none, Cond.constant RX6 210 (4281172), Cond.constant RX6 211 (4277844), Cond.constant RX6 212 (4277582), Cond.methodLink RX6 207 yX5_figure, Cond.instanceMethod yX5_figure]
def wsL_law_r34 : List Cond := [Cond.selects RX5 yX5_figure yX5_figure, Cond.code yX5_figure cX5_figure 2 none, Cond.methodLink RX6 204 yX5_letter, Cond.instanceMethod yX5_letter, Cond.selects RX5 yX5_letter yX5_letter, Cond.code yX5_letter cX5_letter 2 none, Cond.methodLink RX6 166 yX5_finish, Cond.instanceMethod yX5_finish, Cond.selects RX5 yX5_finish yX5_finish, Cond.code yX5_finish cX5_finish 1 (some .int), Cond.methodLink RX5 43 yX5_clear, Cond.methodLink RL 75 yX7_answer, Cond.instanceMethod yX7_answer, Cond.selects RX7 yX7_answer yX7_answer, Cond.code yX7_answer cX7_answer 2 (some .int), Cond.fieldLink RX7 233 "LoopEnvelopesModel" "isFull" "Z", Cond.methodLink RX7 253 yX7_writeGroup, Cond.instanceMethod yX7_writeGroup, Cond.selects RX7 yX7_writeGroup yX7_writeGroup, Cond.code yX7_writeGroup cX7_writeGroup 5 none, Cond.methodLink RX7 239 yX7_write3, Cond.instanceMethod yX7_write3, Cond.selects RX7 yX7_write3 yX7_write3, Cond.code yX7_write3 cX7_write3 4 none]
def wsL_law_r35 : List Cond := [Cond.methodLink RX7 236 yX7_write, Cond.instanceMethod yX7_write, Cond.selects RX7 yX7_write yX7_write, Cond.code yX7_write cX7_write 2 none, Cond.methodLink RX7 243 yX7_writeElement, Cond.instanceMethod yX7_writeElement, Cond.selects RX7 yX7_writeElement yX7_writeElement, Cond.code yX7_writeElement cX7_writeElement 4 none, Cond.methodLink RX7 250 yX7_writeSet, Cond.instanceMethod yX7_writeSet, Cond.selects RX7 yX7_writeSet yX7_writeSet, Cond.code yX7_writeSet cX7_writeSet 5 none, Cond.methodLink RX7 247 yX7_writeNumber, Cond.instanceMethod yX7_writeNumber, Cond.selects RX7 yX7_writeNumber yX7_writeNumber, Cond.code yX7_writeNumber cX7_writeNumber 3 none, Cond.methodLink RL 76 yX6_answered, Cond.instanceMethod yX6_answered, Cond.selects RX6 yX6_answered yX6_answered, Cond.code yX6_answered cX6_answered 3 (some .int), Cond.methodLink RX6 169 yX5_at, Cond.instanceMethod yX5_at, Cond.selects RX5 yX5_at yX5_at, Cond.code yX5_at cX5_at 2 (some .int)]
def wsL_law_r36 : List Cond := [Cond.methodLink RX5 32 yX0_at, Cond.methodLink RL 79 yX7_answered, Cond.instanceMethod yX7_answered, Cond.selects RX7 yX7_answered yX7_answered, Cond.code yX7_answered cX7_answered 2 (some .int), Cond.methodLink RL 80 yX6_turn, Cond.instanceMethod yX6_turn, Cond.selects RX6 yX6_turn yX6_turn, Cond.code yX6_turn cX6_turn 2 (some .int), Cond.methodLink RX6 170 yX5_copyInto, Cond.instanceMethod yX5_copyInto, Cond.selects RX5 yX5_copyInto yX5_copyInto, Cond.code yX5_copyInto cX5_copyInto 2 none, Cond.methodLink RX5 36 yX0_become, Cond.methodLink RL 83 yX7_turn, Cond.instanceMethod yX7_turn, Cond.selects RX7 yX7_turn yX7_turn, Cond.code yX7_turn cX7_turn 2 (some .int)]
def wsL_law : List Cond := (wsL_law_r1 ++ (wsL_law_r2 ++ (wsL_law_r3 ++ (wsL_law_r4 ++ (wsL_law_r5 ++ (wsL_law_r6 ++ (wsL_law_r7 ++ (wsL_law_r8 ++ (wsL_law_r9 ++ (wsL_law_r10 ++ (wsL_law_r11 ++ (wsL_law_r12 ++ (wsL_law_r13 ++ (wsL_law_r14 ++ (wsL_law_r15 ++ (wsL_law_r16 ++ (wsL_law_r17 ++ (wsL_law_r18 ++ (wsL_law_r19 ++ (wsL_law_r20 ++ (wsL_law_r21 ++ (wsL_law_r22 ++ (wsL_law_r23 ++ (wsL_law_r24 ++ (wsL_law_r25 ++ (wsL_law_r26 ++ (wsL_law_r27 ++ (wsL_law_r28 ++ (wsL_law_r29 ++ (wsL_law_r30 ++ (wsL_law_r31 ++ (wsL_law_r32 ++ (wsL_law_r33 ++ (wsL_law_r34 ++ (wsL_law_r35 ++ wsL_law_r36))))))))))))))))))))))))))))))))))) ++ wsX60 ++ wsX70 ++ wsX00 ++ wsX30 ++ wsX10 ++ wsX20 ++ wsX50 ++ wsX40 ++ ([] : List Cond)
set_option maxRecDepth 20000 in
theorem wsL_law_in : ∀ w ∈ wsL_law, w ∈ lw_tbl := fun w h => (goodIn_p wsL_law [81, 84, 89, 93, 106, 114, 148, 175, 199, 714, 238, 242, 247, 808, 811, 251, 255, 259, 816, 263, 267, 270, 820, 274, 278, 282, 288, 292, 296, 301, 306, 310, 313, 316, 320, 324, 328, 332, 336, 340, 344, 348, 352, 356, 360, 364, 368, 373, 377, 381, 385, 389, 395, 400, 405, 411, 415, 420, 424, 428, 432, 437, 444, 448, 452, 459, 468, 471, 479, 483, 487, 492, 496, 500, 504, 508, 512, 516, 520, 524, 528, 532, 536, 541, 545, 824, 828, 831, 834, 837, 841, 844, 848, 852, 856, 860, 864, 868, 872, 876, 880, 884, 888, 892, 896, 900, 904, 908, 912, 916, 920, 924, 928, 932, 936, 940, 944, 948, 952, 956, 960, 964, 968, 549, 972, 553, 557, 562, 566, 570, 976, 980, 984, 575, 579, 988, 583, 992, 588, 592, 597, 996, 1000, 602, 607, 614, 1004, 619, 1008, 629, 1012, 634, 1016, 639, 643, 648, 653, 657, 662, 669, 674, 680, 685, 690, 1020, 1024, 1028, 1032, 1036, 1040, 1044, 695, 699, 1048, 704, 708, 1052] (by decide +kernel) (by decide +kernel) w h).1
theorem inlX0 : ∀ w ∈ wsX00, w ∈ wsL_law := fun _ h => List.mem_append_left _ (List.mem_append_left _ (List.mem_append_left _ (List.mem_append_left _ (List.mem_append_left _ (List.mem_append_left _ (List.mem_append_right _ h))))))
theorem inlX1 : ∀ w ∈ wsX10, w ∈ wsL_law := fun _ h => List.mem_append_left _ (List.mem_append_left _ (List.mem_append_left _ (List.mem_append_left _ (List.mem_append_right _ h))))
theorem inlX2 : ∀ w ∈ wsX20, w ∈ wsL_law := fun _ h => List.mem_append_left _ (List.mem_append_left _ (List.mem_append_left _ (List.mem_append_right _ h)))
theorem inlX3 : ∀ w ∈ wsX30, w ∈ wsL_law := fun _ h => List.mem_append_left _ (List.mem_append_left _ (List.mem_append_left _ (List.mem_append_left _ (List.mem_append_left _ (List.mem_append_right _ h)))))
theorem inlX4 : ∀ w ∈ wsX40, w ∈ wsL_law := fun _ h => List.mem_append_left _ (List.mem_append_right _ h)
theorem inlX5 : ∀ w ∈ wsX50, w ∈ wsL_law := fun _ h => List.mem_append_left _ (List.mem_append_left _ (List.mem_append_right _ h))
theorem inlX6 : ∀ w ∈ wsX60, w ∈ wsL_law := fun _ h => List.mem_append_left _ (List.mem_append_left _ (List.mem_append_left _ (List.mem_append_left _ (List.mem_append_left _ (List.mem_append_left _ (List.mem_append_left _ (List.mem_append_left _ (List.mem_append_right _ h))))))))
theorem inlX7 : ∀ w ∈ wsX70, w ∈ wsL_law := fun _ h => List.mem_append_left _ (List.mem_append_left _ (List.mem_append_left _ (List.mem_append_left _ (List.mem_append_left _ (List.mem_append_left _ (List.mem_append_left _ (List.mem_append_right _ h)))))))
set_option maxRecDepth 20000 in
theorem ggX1_init_X4_init : GoodIn wsX1_init wsX4_init := goodIn_r _ [15, 16, 2, 3, 17, 18, 19, 20, 21, 22, 23, 24, 31, 32, 33] (by decide +kernel) (by decide +kernel)
set_option maxRecDepth 20000 in
theorem gX1_init_X4_init : GoodIn wsX1_init (wsX4_init) := ggX1_init_X4_init
set_option maxRecDepth 20000 in
theorem ggX2_init_X4_init : GoodIn wsX2_init wsX4_init := goodIn_r _ [14, 15, 2, 3, 16, 17, 18, 19, 20, 21, 22, 23, 29, 30, 31] (by decide +kernel) (by decide +kernel)
set_option maxRecDepth 20000 in
theorem gX2_init_X4_init : GoodIn wsX2_init (wsX4_init) := ggX2_init_X4_init
set_option maxRecDepth 20000 in
theorem ggX3_init_X0_init : GoodIn wsX3_init wsX0_init := goodIn_r _ [17, 18, 2, 3, 19, 20, 21, 22, 23, 24, 25, 35, 36] (by decide +kernel) (by decide +kernel)
set_option maxRecDepth 20000 in
theorem gX3_init_X0_init : GoodIn wsX3_init (wsX0_init) := ggX3_init_X0_init
set_option maxRecDepth 20000 in
theorem ggX3_init_X4_init : GoodIn wsX3_init wsX4_init := goodIn_r _ [28, 29, 2, 3, 30, 31, 32, 20, 21, 22, 33, 34, 42, 43, 44] (by decide +kernel) (by decide +kernel)
set_option maxRecDepth 20000 in
theorem gX3_init_X4_init : GoodIn wsX3_init (wsX4_init) := ggX3_init_X4_init
set_option maxRecDepth 20000 in
theorem ggX3_take_X0_become : GoodIn wsX3_take wsX0_become := goodIn_r _ [7, 8, 9, 10, 11, 6, 12, 13, 14, 15, 16, 17, 23, 24] (by decide +kernel) (by decide +kernel)
set_option maxRecDepth 20000 in
theorem gX3_take_X0_become : GoodIn wsX3_take (wsV RX3 39 RX0 yX0_become wsX0_become) := goodIn_app (goodIn_of _ (by decide +kernel)) ggX3_take_X0_become
set_option maxRecDepth 20000 in
theorem ggX3_splitter_X0_at : GoodIn wsX3_splitter wsX0_at := goodIn_r _ [6, 7, 8, 14, 15] (by decide +kernel) (by decide +kernel)
set_option maxRecDepth 20000 in
theorem gX3_splitter_X0_at : GoodIn wsX3_splitter (wsV RX3 47 RX0 yX0_at wsX0_at) := goodIn_app (goodIn_of _ (by decide +kernel)) ggX3_splitter_X0_at
set_option maxRecDepth 20000 in
theorem ggX3_closer_X0_at : GoodIn wsX3_closer wsX0_at := goodIn_r _ [6, 7, 8, 14, 15] (by decide +kernel) (by decide +kernel)
set_option maxRecDepth 20000 in
theorem gX3_closer_X0_at : GoodIn wsX3_closer (wsV RX3 47 RX0 yX0_at wsX0_at) := goodIn_app (goodIn_of _ (by decide +kernel)) ggX3_closer_X0_at
set_option maxRecDepth 20000 in
theorem ggX3_opens_X3_splitter : GoodIn wsX3_opens wsX3_splitter := goodIn_r _ [6, 1, 7, 8, 9, 10, 11, 12, 13, 36, 37, 38, 39, 40, 41, 42] (by decide +kernel) (by decide +kernel)
set_option maxRecDepth 20000 in
theorem gX3_opens_X3_splitter : GoodIn wsX3_opens (wsV RX3 55 RX3 yX3_splitter wsX3_splitter) := goodIn_app (goodIn_of _ (by decide +kernel)) ggX3_opens_X3_splitter
set_option maxRecDepth 20000 in
theorem ggX3_opens_X0_at : GoodIn wsX3_opens wsX0_at := goodIn_r _ [11, 12, 13, 41, 42] (by decide +kernel) (by decide +kernel)
set_option maxRecDepth 20000 in
theorem gX3_opens_X0_at : GoodIn wsX3_opens (wsV RX3 47 RX0 yX0_at wsX0_at) := goodIn_app (goodIn_of _ (by decide +kernel)) ggX3_opens_X0_at
set_option maxRecDepth 20000 in
theorem ggX3_opens_X3_closer : GoodIn wsX3_opens wsX3_closer := goodIn_r _ [17, 1, 7, 8, 9, 10, 11, 12, 13, 36, 37, 38, 39, 40, 41, 42] (by decide +kernel) (by decide +kernel)
set_option maxRecDepth 20000 in
theorem gX3_opens_X3_closer : GoodIn wsX3_opens (wsV RX3 58 RX3 yX3_closer wsX3_closer) := goodIn_app (goodIn_of _ (by decide +kernel)) ggX3_opens_X3_closer
set_option maxRecDepth 20000 in
theorem ggX3_opens_X0_length : GoodIn wsX3_opens wsX0_length := goodIn_r _ [21, 12, 41, 42] (by decide +kernel) (by decide +kernel)
set_option maxRecDepth 20000 in
theorem gX3_opens_X0_length : GoodIn wsX3_opens (wsV RX3 43 RX0 yX0_length wsX0_length) := goodIn_app (goodIn_of _ (by decide +kernel)) ggX3_opens_X0_length
set_option maxRecDepth 20000 in
theorem ggX5_init_X0_init : GoodIn wsX5_init wsX0_init := goodIn_r _ [12, 13, 2, 3, 14, 15, 16, 17, 18, 19, 20, 24, 25] (by decide +kernel) (by decide +kernel)
set_option maxRecDepth 20000 in
theorem gX5_init_X0_init : GoodIn wsX5_init (wsX0_init) := ggX5_init_X0_init
set_option maxRecDepth 20000 in
theorem ggX5_length_X0_length : GoodIn wsX5_length wsX0_length := goodIn_r _ [6, 7, 11, 12] (by decide +kernel) (by decide +kernel)
set_option maxRecDepth 20000 in
theorem gX5_length_X0_length : GoodIn wsX5_length (wsV RX5 28 RX0 yX0_length wsX0_length) := goodIn_app (goodIn_of _ (by decide +kernel)) ggX5_length_X0_length
set_option maxRecDepth 20000 in
theorem ggX5_at_X0_at : GoodIn wsX5_at wsX0_at := goodIn_r _ [6, 7, 8, 12, 13] (by decide +kernel) (by decide +kernel)
set_option maxRecDepth 20000 in
theorem gX5_at_X0_at : GoodIn wsX5_at (wsV RX5 32 RX0 yX0_at wsX0_at) := goodIn_app (goodIn_of _ (by decide +kernel)) ggX5_at_X0_at
set_option maxRecDepth 20000 in
theorem ggX6_init_X0_init : GoodIn wsX6_init wsX0_init := goodIn_r _ [28, 29, 2, 3, 30, 31, 32, 33, 34, 35, 36, 92, 93] (by decide +kernel) (by decide +kernel)
set_option maxRecDepth 20000 in
theorem gX6_init_X0_init : GoodIn wsX6_init (wsX0_init) := ggX6_init_X0_init
set_option maxRecDepth 20000 in
theorem ggX6_init_X3_init : GoodIn wsX6_init wsX3_init := goodIn_r _ [39, 40, 2, 3, 41, 5, 6, 42, 43, 44, 45, 46, 47, 48, 49, 50, 27, 28, 29, 30, 31, 32, 33, 34, 35, 36, 51, 52, 53, 54, 55, 56, 57, 58, 59, 92, 93, 101, 102, 103, 104, 105, 120, 121, 122] (by decide +kernel) (by decide +kernel)
set_option maxRecDepth 20000 in
theorem gX6_init_X3_init : GoodIn wsX6_init (wsX3_init) := ggX6_init_X3_init
set_option maxRecDepth 20000 in
theorem ggX6_init_X1_init : GoodIn wsX6_init wsX1_init := goodIn_r _ [62, 63, 2, 3, 64, 65, 44, 45, 66, 67, 68, 69, 70, 71, 52, 53, 54, 55, 56, 57, 31, 32, 33, 58, 59, 106, 107, 108, 109, 110, 111, 120, 121, 122] (by decide +kernel) (by decide +kernel)
set_option maxRecDepth 20000 in
theorem gX6_init_X1_init : GoodIn wsX6_init (wsX1_init) := ggX6_init_X1_init
set_option maxRecDepth 20000 in
theorem ggX6_init_X2_init : GoodIn wsX6_init wsX2_init := goodIn_r _ [74, 75, 2, 3, 76, 77, 78, 44, 45, 79, 80, 81, 82, 52, 53, 54, 55, 56, 57, 31, 32, 33, 58, 59, 112, 113, 114, 115, 116, 120, 121, 122] (by decide +kernel) (by decide +kernel)
set_option maxRecDepth 20000 in
theorem gX6_init_X2_init : GoodIn wsX6_init (wsX2_init) := ggX6_init_X2_init
set_option maxRecDepth 20000 in
theorem ggX6_init_X5_init : GoodIn wsX6_init wsX5_init := goodIn_r _ [85, 86, 2, 3, 87, 88, 5, 6, 89, 90, 91, 27, 28, 29, 30, 31, 32, 33, 34, 35, 36, 117, 118, 119, 92, 93] (by decide +kernel) (by decide +kernel)
set_option maxRecDepth 20000 in
theorem gX6_init_X5_init : GoodIn wsX6_init (wsX5_init) := ggX6_init_X5_init
set_option maxRecDepth 20000 in
theorem ggX6_feed_X0_length : GoodIn wsX6_feed wsX0_length := goodIn_r _ [7, 8, 21, 22] (by decide +kernel) (by decide +kernel)
set_option maxRecDepth 20000 in
theorem gX6_feed_X0_length : GoodIn wsX6_feed (wsV RX6 58 RX0 yX0_length wsX0_length) := goodIn_app (goodIn_of _ (by decide +kernel)) ggX6_feed_X0_length
set_option maxRecDepth 20000 in
theorem ggX6_feed_X0_append : GoodIn wsX6_feed wsX0_append := goodIn_r _ [12, 8, 13, 21, 22] (by decide +kernel) (by decide +kernel)
set_option maxRecDepth 20000 in
theorem gX6_feed_X0_append : GoodIn wsX6_feed (wsV RX6 64 RX0 yX0_append wsX0_append) := goodIn_app (goodIn_of _ (by decide +kernel)) ggX6_feed_X0_append
set_option maxRecDepth 20000 in
theorem ggX6_set_X0_length : GoodIn wsX6_set wsX0_length := goodIn_r _ [6, 7, 24, 25] (by decide +kernel) (by decide +kernel)
set_option maxRecDepth 20000 in
theorem gX6_set_X0_length : GoodIn wsX6_set (wsV RX6 58 RX0 yX0_length wsX0_length) := goodIn_app (goodIn_of _ (by decide +kernel)) ggX6_set_X0_length
set_option maxRecDepth 20000 in
theorem ggX6_cut_X0_length : GoodIn wsX6_cut wsX0_length := goodIn_r _ [6, 7, 26, 27] (by decide +kernel) (by decide +kernel)
set_option maxRecDepth 20000 in
theorem gX6_cut_X0_length : GoodIn wsX6_cut (wsV RX6 58 RX0 yX0_length wsX0_length) := goodIn_app (goodIn_of _ (by decide +kernel)) ggX6_cut_X0_length
set_option maxRecDepth 20000 in
theorem ggX6_cut_X0_shorten : GoodIn wsX6_cut wsX0_shorten := goodIn_r _ [11, 7, 12, 13, 14, 15, 16, 17, 18, 26, 27] (by decide +kernel) (by decide +kernel)
set_option maxRecDepth 20000 in
theorem gX6_cut_X0_shorten : GoodIn wsX6_cut (wsV RX6 76 RX0 yX0_shorten wsX0_shorten) := goodIn_app (goodIn_of _ (by decide +kernel)) ggX6_cut_X0_shorten
set_option maxRecDepth 20000 in
theorem ggX6_read_X3_take : GoodIn wsX6_read wsX3_take := goodIn_r _ [11, 12, 13, 14, 15, 16, 17, 18, 19, 20, 21, 22, 23, 24, 25, 26, 27, 28, 326, 327, 328, 329, 330, 331, 332] (by decide +kernel) (by decide +kernel)
set_option maxRecDepth 20000 in
theorem gX6_read_X3_take : GoodIn wsX6_read (wsV RX6 79 RX3 yX3_take wsX3_take) := goodIn_app (goodIn_of _ (by decide +kernel)) ggX6_read_X3_take
set_option maxRecDepth 20000 in
theorem ggX6_read_X1_clear : GoodIn wsX6_read wsX1_clear := goodIn_r _ [33, 34, 35, 36, 333, 334, 335, 336, 337, 338] (by decide +kernel) (by decide +kernel)
set_option maxRecDepth 20000 in
theorem gX6_read_X1_clear : GoodIn wsX6_read (wsV RX6 83 RX1 yX1_clear wsX1_clear) := goodIn_app (goodIn_of _ (by decide +kernel)) ggX6_read_X1_clear
set_option maxRecDepth 20000 in
theorem ggX6_read_X3_opens : GoodIn wsX6_read wsX3_opens := goodIn_r _ [40, 12, 41, 42, 43, 10, 44, 45, 21, 22, 17, 23, 19, 24, 46, 47, 48, 49, 50, 51, 52, 53, 54, 55, 56, 57, 58, 59, 60, 61, 62, 63, 64, 65, 66, 67, 326, 327, 328, 329, 330, 331, 332] (by decide +kernel) (by decide +kernel)
set_option maxRecDepth 20000 in
theorem gX6_read_X3_opens : GoodIn wsX6_read (wsV RX6 86 RX3 yX3_opens wsX3_opens) := goodIn_app (goodIn_of _ (by decide +kernel)) ggX6_read_X3_opens
set_option maxRecDepth 20000 in
theorem ggX6_read_X6_tell : GoodIn wsX6_read wsX6_tell := goodIn_r _ [88, 4, 319, 320, 321, 322, 323, 324, 325] (by decide +kernel) (by decide +kernel)
set_option maxRecDepth 20000 in
theorem gX6_read_X6_tell : GoodIn wsX6_read (wsV RX6 93 RX6 yX6_tell wsX6_tell) := goodIn_app (goodIn_of _ (by decide +kernel)) ggX6_read_X6_tell
set_option maxRecDepth 20000 in
theorem ggX6_count_X0_length : GoodIn wsX6_count wsX0_length := goodIn_r _ [11, 12, 77, 78] (by decide +kernel) (by decide +kernel)
set_option maxRecDepth 20000 in
theorem gX6_count_X0_length : GoodIn wsX6_count (wsV RX6 58 RX0 yX0_length wsX0_length) := goodIn_app (goodIn_of _ (by decide +kernel)) ggX6_count_X0_length
set_option maxRecDepth 20000 in
theorem ggX6_count_X5_length : GoodIn wsX6_count wsX5_length := goodIn_r _ [17, 18, 19, 8, 9, 10, 11, 12, 79, 80, 81, 77, 78] (by decide +kernel) (by decide +kernel)
set_option maxRecDepth 20000 in
theorem gX6_count_X5_length : GoodIn wsX6_count (wsV RX6 103 RX5 yX5_length wsX5_length) := goodIn_app (goodIn_of _ (by decide +kernel)) ggX6_count_X5_length
set_option maxRecDepth 20000 in
theorem ggX6_answered_X5_at : GoodIn wsX6_answered wsX5_at := goodIn_r _ [6, 7, 8, 9, 10, 11, 12, 13, 14, 22, 23, 24, 25, 26] (by decide +kernel) (by decide +kernel)
set_option maxRecDepth 20000 in
theorem gX6_answered_X5_at : GoodIn wsX6_answered (wsV RX6 169 RX5 yX5_at wsX5_at) := goodIn_app (goodIn_of _ (by decide +kernel)) ggX6_answered_X5_at
set_option maxRecDepth 20000 in
theorem ggX6_turn_X5_length : GoodIn wsX6_turn wsX5_length := goodIn_r _ [7, 8, 9, 10, 11, 12, 13, 14, 39, 40, 41, 42, 43] (by decide +kernel) (by decide +kernel)
set_option maxRecDepth 20000 in
theorem gX6_turn_X5_length : GoodIn wsX6_turn (wsV RX6 103 RX5 yX5_length wsX5_length) := goodIn_app (goodIn_of _ (by decide +kernel)) ggX6_turn_X5_length
set_option maxRecDepth 20000 in
theorem ggX7_feed_X7_in : GoodIn wsX7_feed wsX7_in := goodIn_r _ [7] (by decide +kernel) (by decide +kernel)
set_option maxRecDepth 20000 in
theorem gX7_feed_X7_in : GoodIn wsX7_feed (va_wsS RX7 63 yX7_in wsX7_in) := goodIn_app (goodIn_of _ (by decide +kernel)) ggX7_feed_X7_in
set_option maxRecDepth 20000 in
theorem ggX7_set_X7_in : GoodIn wsX7_set wsX7_in := goodIn_r _ [6] (by decide +kernel) (by decide +kernel)
set_option maxRecDepth 20000 in
theorem gX7_set_X7_in : GoodIn wsX7_set (va_wsS RX7 63 yX7_in wsX7_in) := goodIn_app (goodIn_of _ (by decide +kernel)) ggX7_set_X7_in
set_option maxRecDepth 20000 in
theorem ggX7_cut_X7_in : GoodIn wsX7_cut wsX7_in := goodIn_r _ [5] (by decide +kernel) (by decide +kernel)
set_option maxRecDepth 20000 in
theorem gX7_cut_X7_in : GoodIn wsX7_cut (va_wsS RX7 63 yX7_in wsX7_in) := goodIn_app (goodIn_of _ (by decide +kernel)) ggX7_cut_X7_in
set_option maxRecDepth 20000 in
theorem ggX7_read_X7_isOpening : GoodIn wsX7_read wsX7_isOpening := goodIn_r _ [19, 1, 3, 20, 21, 18, 22, 23, 24, 25, 26, 27, 28, 29, 30, 31, 175, 176, 177, 178, 179, 180, 181, 182, 183, 184, 185, 186, 187, 188, 189, 190, 191, 192, 193, 194, 195, 196, 197, 198, 199, 200, 201, 202, 203] (by decide +kernel) (by decide +kernel)
set_option maxRecDepth 20000 in
theorem gX7_read_X7_isOpening : GoodIn wsX7_read (wsV RX7 147 RX7 yX7_isOpening wsX7_isOpening) := goodIn_app (goodIn_of _ (by decide +kernel)) ggX7_read_X7_isOpening
set_option maxRecDepth 20000 in
theorem ggX7_read_X7_found : GoodIn wsX7_read wsX7_found := goodIn_r _ [35, 13, 14, 175, 176, 177, 178, 179, 180, 181, 182, 183, 184, 185, 186, 187, 188, 189, 190, 191, 192, 193, 194, 195, 196, 197, 198, 199, 200, 201, 202, 203] (by decide +kernel) (by decide +kernel)
set_option maxRecDepth 20000 in
theorem gX7_read_X7_found : GoodIn wsX7_read (wsV RX7 151 RX7 yX7_found wsX7_found) := goodIn_app (goodIn_of _ (by decide +kernel)) ggX7_read_X7_found
set_option maxRecDepth 20000 in
theorem ggX7_count_X7_in : GoodIn wsX7_count wsX7_in := goodIn_r _ [11] (by decide +kernel) (by decide +kernel)
set_option maxRecDepth 20000 in
theorem gX7_count_X7_in : GoodIn wsX7_count (va_wsS RX7 63 yX7_in wsX7_in) := goodIn_app (goodIn_of _ (by decide +kernel)) ggX7_count_X7_in
set_option maxRecDepth 20000 in
theorem ggX7_answered_X7_in : GoodIn wsX7_answered wsX7_in := goodIn_r _ [6] (by decide +kernel) (by decide +kernel)
set_option maxRecDepth 20000 in
theorem gX7_answered_X7_in : GoodIn wsX7_answered (va_wsS RX7 63 yX7_in wsX7_in) := goodIn_app (goodIn_of _ (by decide +kernel)) ggX7_answered_X7_in
set_option maxRecDepth 20000 in
theorem ggL_law_X6_init : GoodIn wsL_law wsX6_init := goodIn_r _ [9, 10, 11, 12, 13, 14, 15, 16, 17, 18, 19, 20, 21, 22, 23, 24, 25, 26, 27, 28, 29, 30, 31, 32, 33, 34, 35, 36, 37, 38, 39, 40, 41, 42, 43, 44, 45, 46, 47, 48, 49, 50, 51, 52, 53, 54, 55, 56, 57, 58, 59, 60, 61, 62, 63, 64, 65, 66, 67, 68, 69, 70, 71, 72, 73, 74, 75, 76, 77, 78, 79, 80, 81, 82, 83, 84, 85, 86, 87, 88, 89, 90, 91, 92, 93, 94, 95, 96, 97, 98, 99, 100, 894, 895, 858, 859, 860, 861, 862, 863, 864, 896, 897, 898, 899, 900, 901, 902, 903, 904, 905, 906, 907, 908, 909, 910, 911, 912, 913, 914, 915, 916, 917] (by decide +kernel) (by decide +kernel)
set_option maxRecDepth 20000 in
theorem gL_law_X6_init : GoodIn wsL_law (wsX6_init) := ggL_law_X6_init
set_option maxRecDepth 20000 in
theorem ggL_law_X7_init : GoodIn wsL_law wsX7_init := goodIn_r _ [103, 104, 11, 12, 67, 105, 106, 107, 108, 109, 110, 111, 112, 113, 114, 115, 116, 117, 118, 119, 120, 121, 122, 865, 866, 867, 868, 869, 870, 871, 872, 873, 874, 875, 876, 877, 878, 879, 880, 881, 882, 883, 884, 885, 886, 887, 888, 889, 890, 891, 892, 893] (by decide +kernel) (by decide +kernel)
set_option maxRecDepth 20000 in
theorem gL_law_X7_init : GoodIn wsL_law (wsX7_init) := ggL_law_X7_init
set_option maxRecDepth 20000 in
theorem ggL_law_X6_feed : GoodIn wsL_law wsX6_feed := goodIn_r _ [126, 16, 127, 128, 129, 130, 15, 131, 45, 132, 133, 134, 135, 44, 858, 859, 860, 861, 862, 863, 864, 894, 895] (by decide +kernel) (by decide +kernel)
set_option maxRecDepth 20000 in
theorem gL_law_X6_feed : GoodIn wsL_law (wsV RL 15 RX6 yX6_feed wsX6_feed) := goodIn_app (goodIn_of _ (by decide +kernel)) ggL_law_X6_feed
set_option maxRecDepth 20000 in
theorem ggL_law_X7_feed : GoodIn wsL_law wsX7_feed := goodIn_r _ [139, 140, 105, 141, 142, 143, 5, 144, 865, 866, 867, 868, 869, 870, 871, 872, 873, 874, 875, 876, 877, 878, 879, 880, 881, 882, 883, 884, 885, 886, 887, 888, 889, 890, 891, 892, 893] (by decide +kernel) (by decide +kernel)
set_option maxRecDepth 20000 in
theorem gL_law_X7_feed : GoodIn wsL_law (wsV RL 19 RX7 yX7_feed wsX7_feed) := goodIn_app (goodIn_of _ (by decide +kernel)) ggL_law_X7_feed
set_option maxRecDepth 20000 in
theorem ggL_law_X6_set : GoodIn wsL_law wsX6_set := goodIn_r _ [148, 16, 128, 129, 130, 15, 131, 45, 149, 150, 151, 152, 44, 153, 154, 155, 156, 858, 859, 860, 861, 862, 863, 864, 894, 895] (by decide +kernel) (by decide +kernel)
set_option maxRecDepth 20000 in
theorem gL_law_X6_set : GoodIn wsL_law (wsV RL 20 RX6 yX6_set wsX6_set) := goodIn_app (goodIn_of _ (by decide +kernel)) ggL_law_X6_set
set_option maxRecDepth 20000 in
theorem ggL_law_X7_set : GoodIn wsL_law wsX7_set := goodIn_r _ [160, 140, 105, 142, 143, 5, 144, 865, 866, 867, 868, 869, 870, 871, 872, 873, 874, 875, 876, 877, 878, 879, 880, 881, 882, 883, 884, 885, 886, 887, 888, 889, 890, 891, 892, 893] (by decide +kernel) (by decide +kernel)
set_option maxRecDepth 20000 in
theorem gL_law_X7_set : GoodIn wsL_law (wsV RL 24 RX7 yX7_set wsX7_set) := goodIn_app (goodIn_of _ (by decide +kernel)) ggL_law_X7_set
set_option maxRecDepth 20000 in
theorem ggL_law_X6_cut : GoodIn wsL_law wsX6_cut := goodIn_r _ [164, 16, 128, 129, 130, 15, 131, 45, 165, 166, 167, 168, 169, 170, 41, 171, 39, 40, 42, 858, 859, 860, 861, 862, 863, 864, 894, 895] (by decide +kernel) (by decide +kernel)
set_option maxRecDepth 20000 in
theorem gL_law_X6_cut : GoodIn wsL_law (wsV RL 25 RX6 yX6_cut wsX6_cut) := goodIn_app (goodIn_of _ (by decide +kernel)) ggL_law_X6_cut
set_option maxRecDepth 20000 in
theorem ggL_law_X7_cut : GoodIn wsL_law wsX7_cut := goodIn_r _ [175, 140, 142, 143, 5, 144, 865, 866, 867, 868, 869, 870, 871, 872, 873, 874, 875, 876, 877, 878, 879, 880, 881, 882, 883, 884, 885, 886, 887, 888, 889, 890, 891, 892, 893] (by decide +kernel) (by decide +kernel)
set_option maxRecDepth 20000 in
theorem gL_law_X7_cut : GoodIn wsL_law (wsV RL 29 RX7 yX7_cut wsX7_cut) := goodIn_app (goodIn_of _ (by decide +kernel)) ggL_law_X7_cut
set_option maxRecDepth 20000 in
theorem ggL_law_X6_read : GoodIn wsL_law wsX6_read := goodIn_r _ [179, 20, 16, 24, 33, 34, 28, 180, 181, 182, 19, 183, 51, 58, 184, 185, 186, 15, 187, 45, 188, 150, 151, 152, 44, 189, 133, 134, 135, 190, 191, 192, 23, 193, 77, 78, 79, 194, 195, 196, 197, 198, 199, 200, 201, 202, 203, 204, 205, 206, 207, 129, 130, 131, 208, 209, 210, 211, 212, 213, 214, 215, 216, 217, 218, 219, 220, 221, 222, 223, 224, 2, 225, 226, 227, 228, 229, 230, 231, 232, 233, 234, 235, 236, 237, 238, 239, 240, 241, 242, 243, 244, 245, 246, 247, 248, 249, 55, 57, 56, 250, 251, 252, 54, 253, 64, 65, 68, 254, 255, 256, 257, 258, 259, 260, 261, 262, 263, 264, 265, 266, 267, 268, 269, 73, 270, 271, 272, 273, 274, 275, 276, 277, 278, 279, 280, 281, 75, 282, 283, 284, 285, 286, 287, 288, 289, 290, 291, 292, 293, 294, 295, 296, 297, 298, 299, 300, 301, 302, 303, 304, 305, 306, 307, 308, 309, 310, 311, 76, 312, 313, 314, 315, 316, 317, 318, 319, 320, 321, 322, 323, 324, 325, 326, 327, 328, 27, 329, 86, 89, 90, 88, 85, 330, 331, 332, 333, 334, 335, 336, 337, 338, 339, 340, 341, 342, 343, 344, 345, 346, 347, 348, 349, 350, 351, 352, 353, 354, 355, 356, 357, 358, 359, 360, 361, 362, 363, 364, 365, 366, 367, 368, 40, 41, 42, 369, 170, 171, 370, 371, 372, 373, 374, 375, 376, 377, 378, 379, 380, 381, 382, 383, 384, 385, 386, 387, 388, 389, 390, 391, 392, 393, 394, 395, 396, 397, 398, 399, 400, 401, 402, 403, 404, 405, 406, 407, 408, 409, 410, 411, 412, 413, 414, 415, 416, 417, 418, 419, 420, 421, 422, 423, 424, 425, 426, 427, 428, 429, 430, 431, 432, 433, 434, 435, 436, 437, 438, 439, 440, 441, 442, 443, 444, 445, 446, 447, 448, 449, 450, 858, 859, 860, 861, 862, 863, 864, 896, 897, 898, 899, 900, 894, 895, 901, 902, 903, 904, 905, 906, 915, 916, 917, 907, 908, 909, 910, 911] (by decide +kernel) (by decide +kernel)
set_option maxRecDepth 20000 in
theorem gL_law_X6_read : GoodIn wsL_law (wsV RL 30 RX6 yX6_read wsX6_read) := goodIn_app (goodIn_of _ (by decide +kernel)) ggL_law_X6_read
set_option maxRecDepth 20000 in
theorem ggL_law_X7_read : GoodIn wsL_law wsX7_read := goodIn_r _ [454, 140, 107, 105, 455, 456, 457, 458, 459, 460, 461, 462, 108, 463, 106, 464, 465, 466, 5, 467, 468, 469, 470, 142, 143, 144, 471, 472, 473, 474, 475, 476, 477, 478, 479, 480, 481, 482, 483, 484, 485, 486, 487, 109, 110, 111, 488, 489, 490, 491, 492, 493, 494, 495, 496, 497, 498, 499, 500, 501, 502, 503, 504, 505, 506, 507, 508, 509, 510, 511, 116, 117, 118, 119, 120, 121, 512, 513, 514, 515, 516, 517, 518, 519, 520, 521, 522, 523, 524, 525, 526, 527, 528, 529, 530, 531, 113, 115, 114, 532, 533, 534, 535, 536, 537, 538, 539, 540, 541, 542, 543, 544, 545, 546, 547, 548, 549, 550, 551, 552, 553, 554, 555, 556, 557, 558, 559, 560, 561, 562, 563, 564, 565, 566, 567, 568, 569, 570, 571, 572, 573, 574, 575, 576, 577, 578, 579, 580, 581, 582, 583, 584, 585, 586, 587, 588, 589, 590, 591, 592, 593, 594, 595, 596, 597, 598, 599, 600, 601, 602, 603, 604, 605, 606, 607, 865, 866, 867, 868, 869, 870, 871, 872, 873, 874, 875, 876, 877, 878, 879, 880, 881, 882, 883, 884, 885, 886, 887, 888, 889, 890, 891, 892, 893] (by decide +kernel) (by decide +kernel)
set_option maxRecDepth 20000 in
theorem gL_law_X7_read : GoodIn wsL_law (wsV RL 34 RX7 yX7_read wsX7_read) := goodIn_app (goodIn_of _ (by decide +kernel)) ggL_law_X7_read
set_option maxRecDepth 20000 in
theorem ggL_law_X6_where : GoodIn wsL_law wsX6_where := goodIn_r _ [611, 33, 858, 859, 860, 861, 862, 863, 864] (by decide +kernel) (by decide +kernel)
set_option maxRecDepth 20000 in
theorem gL_law_X6_where : GoodIn wsL_law (wsV RL 35 RX6 yX6_where wsX6_where) := goodIn_app (goodIn_of _ (by decide +kernel)) ggL_law_X6_where
set_option maxRecDepth 20000 in
theorem ggL_law_X7_where : GoodIn wsL_law wsX7_where := goodIn_r _ [615, 106, 865, 866, 867, 868, 869, 870, 871, 872, 873, 874, 875, 876, 877, 878, 879, 880, 881, 882, 883, 884, 885, 886, 887, 888, 889, 890, 891, 892, 893] (by decide +kernel) (by decide +kernel)
set_option maxRecDepth 20000 in
theorem gL_law_X7_where : GoodIn wsL_law (wsV RL 38 RX7 yX7_where wsX7_where) := goodIn_app (goodIn_of _ (by decide +kernel)) ggL_law_X7_where
set_option maxRecDepth 20000 in
theorem ggL_law_X6_count : GoodIn wsL_law wsX6_count := goodIn_r _ [619, 16, 32, 34, 20, 24, 28, 128, 129, 130, 15, 131, 45, 620, 621, 622, 31, 623, 98, 624, 625, 626, 627, 19, 628, 58, 629, 630, 631, 23, 632, 77, 322, 323, 324, 325, 78, 633, 634, 635, 27, 636, 86, 332, 333, 334, 335, 76, 312, 259, 260, 54, 261, 64, 65, 68, 637, 209, 210, 211, 212, 213, 214, 215, 51, 202, 150, 151, 152, 44, 858, 859, 860, 861, 862, 863, 864, 894, 895, 912, 913, 914, 896, 897, 898, 899, 900, 901, 902, 903, 904, 905, 906, 907, 908, 909, 910, 911, 915, 916, 917] (by decide +kernel) (by decide +kernel)
set_option maxRecDepth 20000 in
theorem gL_law_X6_count : GoodIn wsL_law (wsV RL 39 RX6 yX6_count wsX6_count) := goodIn_app (goodIn_of _ (by decide +kernel)) ggL_law_X6_count
set_option maxRecDepth 20000 in
theorem ggL_law_X7_count : GoodIn wsL_law wsX7_count := goodIn_r _ [641, 140, 642, 463, 459, 460, 461, 458, 142, 143, 5, 144, 643, 644, 645, 646, 647, 648, 649, 650, 120, 121, 114, 865, 866, 867, 868, 869, 870, 871, 872, 873, 874, 875, 876, 877, 878, 879, 880, 881, 882, 883, 884, 885, 886, 887, 888, 889, 890, 891, 892, 893] (by decide +kernel) (by decide +kernel)
set_option maxRecDepth 20000 in
theorem gL_law_X7_count : GoodIn wsL_law (wsV RL 42 RX7 yX7_count wsX7_count) := goodIn_app (goodIn_of _ (by decide +kernel)) ggL_law_X7_count
set_option maxRecDepth 20000 in
theorem ggL_law_X6_group : GoodIn wsL_law wsX6_group := goodIn_r _ [654, 34, 24, 629, 630, 631, 23, 632, 77, 655, 656, 657, 658, 75, 312, 259, 260, 54, 261, 64, 65, 68, 858, 859, 860, 861, 862, 863, 864, 901, 902, 903, 904, 905, 906, 915, 916, 917] (by decide +kernel) (by decide +kernel)
set_option maxRecDepth 20000 in
theorem gL_law_X6_group : GoodIn wsL_law (wsV RL 43 RX6 yX6_group wsX6_group) := goodIn_app (goodIn_of _ (by decide +kernel)) ggL_law_X6_group
set_option maxRecDepth 20000 in
theorem ggL_law_X7_group : GoodIn wsL_law wsX7_group := goodIn_r _ [662, 463, 460, 116, 118, 117, 142, 143, 5, 144, 504, 505, 506, 507, 107, 110, 488, 489, 490, 491, 520, 521, 522, 523, 500, 501, 502, 503, 111, 865, 866, 867, 868, 869, 870, 871, 872, 873, 874, 875, 876, 877, 878, 879, 880, 881, 882, 883, 884, 885, 886, 887, 888, 889, 890, 891, 892, 893] (by decide +kernel) (by decide +kernel)
set_option maxRecDepth 20000 in
theorem gL_law_X7_group : GoodIn wsL_law (wsV RL 46 RX7 yX7_group wsX7_group) := goodIn_app (goodIn_of _ (by decide +kernel)) ggL_law_X7_group
set_option maxRecDepth 20000 in
theorem ggL_law_X6_setOf : GoodIn wsL_law wsX6_setOf := goodIn_r _ [666, 34, 24, 322, 323, 324, 23, 325, 78, 667, 333, 334, 335, 76, 312, 259, 260, 54, 261, 64, 65, 68, 858, 859, 860, 861, 862, 863, 864, 901, 902, 903, 904, 905, 906, 915, 916, 917] (by decide +kernel) (by decide +kernel)
set_option maxRecDepth 20000 in
theorem gL_law_X6_setOf : GoodIn wsL_law (wsV RL 47 RX6 yX6_setOf wsX6_setOf) := goodIn_app (goodIn_of _ (by decide +kernel)) ggL_law_X6_setOf
set_option maxRecDepth 20000 in
theorem ggL_law_X7_setOf : GoodIn wsL_law wsX7_setOf := goodIn_r _ [671, 463, 461, 120, 121, 119, 108, 113, 142, 143, 5, 144, 572, 573, 574, 575, 647, 648, 649, 650, 114, 596, 597, 598, 599, 500, 501, 502, 503, 111, 488, 489, 490, 491, 504, 505, 506, 507, 107, 110, 468, 469, 470, 865, 866, 867, 868, 869, 870, 871, 872, 873, 874, 875, 876, 877, 878, 879, 880, 881, 882, 883, 884, 885, 886, 887, 888, 889, 890, 891, 892, 893] (by decide +kernel) (by decide +kernel)
set_option maxRecDepth 20000 in
theorem gL_law_X7_setOf : GoodIn wsL_law (wsV RL 50 RX7 yX7_setOf wsX7_setOf) := goodIn_app (goodIn_of _ (by decide +kernel)) ggL_law_X7_setOf
set_option maxRecDepth 20000 in
theorem ggL_law_X6_fault : GoodIn wsL_law wsX6_fault := goodIn_r _ [675, 34, 28, 24, 676, 677, 678, 27, 679, 86, 680, 323, 324, 23, 325, 78, 332, 333, 334, 335, 76, 312, 259, 260, 54, 261, 64, 65, 68, 681, 682, 683, 684, 88, 393, 667, 685, 858, 859, 860, 861, 862, 863, 864, 907, 908, 909, 910, 911, 901, 902, 903, 904, 905, 906, 915, 916, 917] (by decide +kernel) (by decide +kernel)
set_option maxRecDepth 20000 in
theorem gL_law_X6_fault : GoodIn wsL_law (wsV RL 51 RX6 yX6_fault wsX6_fault) := goodIn_app (goodIn_of _ (by decide +kernel)) ggL_law_X6_fault
set_option maxRecDepth 20000 in
theorem ggL_law_X7_fault : GoodIn wsL_law wsX7_fault := goodIn_r _ [689, 463, 461, 120, 114, 142, 143, 5, 144, 690, 691, 692, 693, 121, 108, 865, 866, 867, 868, 869, 870, 871, 872, 873, 874, 875, 876, 877, 878, 879, 880, 881, 882, 883, 884, 885, 886, 887, 888, 889, 890, 891, 892, 893] (by decide +kernel) (by decide +kernel)
set_option maxRecDepth 20000 in
theorem gL_law_X7_fault : GoodIn wsL_law (wsV RL 55 RX7 yX7_fault wsX7_fault) := goodIn_app (goodIn_of _ (by decide +kernel)) ggL_law_X7_fault
set_option maxRecDepth 20000 in
theorem ggL_law_X6_level : GoodIn wsL_law wsX6_level := goodIn_r _ [697, 34, 24, 698, 28, 20, 699, 700, 701, 23, 702, 78, 76, 73, 312, 259, 260, 54, 261, 64, 65, 68, 703, 411, 412, 19, 413, 56, 258, 667, 333, 334, 335, 704, 415, 416, 27, 417, 88, 393, 705, 390, 391, 392, 706, 707, 708, 709, 254, 255, 256, 257, 58, 57, 55, 710, 287, 288, 289, 212, 213, 214, 215, 51, 202, 150, 151, 15, 152, 45, 44, 858, 859, 860, 861, 862, 863, 864, 901, 902, 903, 904, 905, 906, 915, 916, 917, 896, 897, 898, 899, 900, 907, 908, 909, 910, 911, 894, 895] (by decide +kernel) (by decide +kernel)
set_option maxRecDepth 20000 in
theorem gL_law_X6_level : GoodIn wsL_law (wsV RL 56 RX6 yX6_level wsX6_level) := goodIn_app (goodIn_of _ (by decide +kernel)) ggL_law_X6_level
set_option maxRecDepth 20000 in
theorem ggL_law_X7_level : GoodIn wsL_law wsX7_level := goodIn_r _ [714, 463, 461, 120, 115, 113, 142, 143, 5, 144, 690, 691, 692, 693, 121, 114, 108, 584, 585, 586, 587, 520, 521, 522, 523, 500, 501, 502, 503, 111, 488, 489, 490, 491, 504, 505, 506, 507, 107, 110, 865, 866, 867, 868, 869, 870, 871, 872, 873, 874, 875, 876, 877, 878, 879, 880, 881, 882, 883, 884, 885, 886, 887, 888, 889, 890, 891, 892, 893] (by decide +kernel) (by decide +kernel)
set_option maxRecDepth 20000 in
theorem gL_law_X7_level : GoodIn wsL_law (wsV RL 59 RX7 yX7_level wsX7_level) := goodIn_app (goodIn_of _ (by decide +kernel)) ggL_law_X7_level
set_option maxRecDepth 20000 in
theorem ggL_law_X6_claim : GoodIn wsL_law wsX6_claim := goodIn_r _ [718, 34, 24, 719, 28, 20, 698, 720, 699, 700, 701, 23, 702, 78, 76, 73, 312, 259, 260, 54, 261, 64, 65, 68, 703, 411, 412, 19, 413, 56, 258, 667, 333, 334, 335, 721, 435, 436, 27, 437, 88, 393, 722, 403, 404, 405, 723, 431, 432, 433, 58, 724, 427, 428, 429, 85, 340, 430, 434, 858, 859, 860, 861, 862, 863, 864, 901, 902, 903, 904, 905, 906, 915, 916, 917, 896, 897, 898, 899, 900, 907, 908, 909, 910, 911] (by decide +kernel) (by decide +kernel)
set_option maxRecDepth 20000 in
theorem gL_law_X6_claim : GoodIn wsL_law (wsV RL 60 RX6 yX6_claim wsX6_claim) := goodIn_app (goodIn_of _ (by decide +kernel)) ggL_law_X6_claim
set_option maxRecDepth 20000 in
theorem ggL_law_X7_claim : GoodIn wsL_law wsX7_claim := goodIn_r _ [728, 463, 461, 120, 121, 113, 142, 143, 5, 144, 690, 691, 692, 693, 114, 108, 596, 597, 598, 599, 500, 501, 502, 503, 111, 488, 489, 490, 491, 504, 505, 506, 507, 107, 110, 468, 469, 470, 572, 573, 574, 575, 604, 605, 606, 607, 600, 601, 602, 603, 865, 866, 867, 868, 869, 870, 871, 872, 873, 874, 875, 876, 877, 878, 879, 880, 881, 882, 883, 884, 885, 886, 887, 888, 889, 890, 891, 892, 893] (by decide +kernel) (by decide +kernel)
set_option maxRecDepth 20000 in
theorem gL_law_X7_claim : GoodIn wsL_law (wsV RL 63 RX7 yX7_claim wsX7_claim) := goodIn_app (goodIn_of _ (by decide +kernel)) ggL_law_X7_claim
set_option maxRecDepth 20000 in
theorem ggL_law_X6_size : GoodIn wsL_law wsX6_size := goodIn_r _ [732, 34, 20, 625, 626, 627, 19, 628, 58, 733, 255, 256, 257, 57, 55, 258, 259, 260, 54, 261, 64, 65, 68, 858, 859, 860, 861, 862, 863, 864, 896, 897, 898, 899, 900, 915, 916, 917] (by decide +kernel) (by decide +kernel)
set_option maxRecDepth 20000 in
theorem gL_law_X6_size : GoodIn wsL_law (wsV RL 64 RX6 yX6_size wsX6_size) := goodIn_app (goodIn_of _ (by decide +kernel)) ggL_law_X6_size
set_option maxRecDepth 20000 in
theorem ggL_law_X7_size : GoodIn wsL_law wsX7_size := goodIn_r _ [737, 463, 459, 109, 142, 143, 5, 144, 500, 501, 502, 503, 111, 488, 489, 490, 491, 865, 866, 867, 868, 869, 870, 871, 872, 873, 874, 875, 876, 877, 878, 879, 880, 881, 882, 883, 884, 885, 886, 887, 888, 889, 890, 891, 892, 893] (by decide +kernel) (by decide +kernel)
set_option maxRecDepth 20000 in
theorem gL_law_X7_size : GoodIn wsL_law (wsV RL 67 RX7 yX7_size wsX7_size) := goodIn_app (goodIn_of _ (by decide +kernel)) ggL_law_X7_size
set_option maxRecDepth 20000 in
theorem ggL_law_X6_byteOf : GoodIn wsL_law wsX6_byteOf := goodIn_r _ [741, 34, 20, 625, 626, 627, 19, 628, 58, 742, 283, 284, 285, 51, 55, 254, 255, 256, 257, 57, 258, 259, 260, 54, 261, 64, 65, 68, 202, 150, 151, 15, 152, 45, 44, 858, 859, 860, 861, 862, 863, 864, 896, 897, 898, 899, 900, 915, 916, 917, 894, 895] (by decide +kernel) (by decide +kernel)
set_option maxRecDepth 20000 in
theorem gL_law_X6_byteOf : GoodIn wsL_law (wsV RL 68 RX6 yX6_byteOf wsX6_byteOf) := goodIn_app (goodIn_of _ (by decide +kernel)) ggL_law_X6_byteOf
set_option maxRecDepth 20000 in
theorem ggL_law_X7_byteOf : GoodIn wsL_law wsX7_byteOf := goodIn_r _ [746, 463, 459, 109, 142, 143, 5, 144, 500, 501, 502, 503, 111, 488, 489, 490, 491, 504, 505, 506, 507, 107, 110, 865, 866, 867, 868, 869, 870, 871, 872, 873, 874, 875, 876, 877, 878, 879, 880, 881, 882, 883, 884, 885, 886, 887, 888, 889, 890, 891, 892, 893] (by decide +kernel) (by decide +kernel)
set_option maxRecDepth 20000 in
theorem gL_law_X7_byteOf : GoodIn wsL_law (wsV RL 71 RX7 yX7_byteOf wsX7_byteOf) := goodIn_app (goodIn_of _ (by decide +kernel)) ggL_law_X7_byteOf
set_option maxRecDepth 20000 in
theorem ggL_law_X6_answer : GoodIn wsL_law wsX6_answer := goodIn_r _ [750, 34, 32, 24, 751, 752, 753, 31, 754, 98, 99, 755, 166, 167, 15, 168, 45, 169, 170, 41, 171, 39, 40, 42, 629, 630, 631, 23, 632, 77, 756, 757, 758, 2, 759, 760, 28, 761, 655, 656, 657, 658, 75, 312, 259, 260, 54, 261, 64, 65, 68, 762, 763, 764, 765, 766, 767, 768, 769, 770, 133, 134, 135, 44, 771, 772, 773, 774, 96, 775, 199, 200, 19, 201, 51, 202, 150, 151, 152, 776, 255, 256, 257, 58, 57, 55, 258, 777, 283, 284, 285, 254, 778, 779, 780, 781, 782, 204, 205, 206, 783, 784, 785, 786, 787, 788, 789, 667, 333, 334, 335, 76, 676, 677, 678, 27, 679, 86, 680, 323, 324, 325, 78, 332, 681, 682, 683, 684, 88, 393, 790, 791, 792, 793, 685, 794, 795, 796, 797, 633, 634, 635, 636, 798, 799, 800, 801, 802, 624, 129, 130, 131, 858, 859, 860, 861, 862, 863, 864, 912, 913, 914, 894, 895, 901, 902, 903, 904, 905, 906, 915, 916, 917, 896, 897, 898, 899, 900, 907, 908, 909, 910, 911] (by decide +kernel) (by decide +kernel)
set_option maxRecDepth 20000 in
theorem gL_law_X6_answer : GoodIn wsL_law (wsV RL 72 RX6 yX6_answer wsX6_answer) := goodIn_app (goodIn_of _ (by decide +kernel)) ggL_law_X6_answer
set_option maxRecDepth 20000 in
theorem ggL_law_X7_answer : GoodIn wsL_law wsX7_answer := goodIn_r _ [806, 463, 642, 807, 460, 808, 809, 810, 5, 811, 116, 457, 117, 118, 455, 812, 813, 814, 815, 816, 817, 818, 819, 122, 820, 821, 822, 823, 109, 500, 501, 502, 503, 111, 488, 489, 490, 491, 504, 505, 506, 507, 107, 110, 824, 825, 826, 827, 120, 121, 114, 828, 829, 830, 831, 647, 648, 649, 650, 865, 866, 867, 868, 869, 870, 871, 872, 873, 874, 875, 876, 877, 878, 879, 880, 881, 882, 883, 884, 885, 886, 887, 888, 889, 890, 891, 892, 893] (by decide +kernel) (by decide +kernel)
set_option maxRecDepth 20000 in
theorem gL_law_X7_answer : GoodIn wsL_law (wsV RL 75 RX7 yX7_answer wsX7_answer) := goodIn_app (goodIn_of _ (by decide +kernel)) ggL_law_X7_answer
set_option maxRecDepth 20000 in
theorem ggL_law_X6_answered : GoodIn wsL_law wsX6_answered := goodIn_r _ [835, 32, 836, 837, 838, 31, 839, 98, 840, 150, 151, 15, 152, 45, 44, 858, 859, 860, 861, 862, 863, 864, 912, 913, 914, 894, 895] (by decide +kernel) (by decide +kernel)
set_option maxRecDepth 20000 in
theorem gL_law_X6_answered : GoodIn wsL_law (wsV RL 76 RX6 yX6_answered wsX6_answered) := goodIn_app (goodIn_of _ (by decide +kernel)) ggL_law_X6_answered
set_option maxRecDepth 20000 in
theorem ggL_law_X7_answered : GoodIn wsL_law wsX7_answered := goodIn_r _ [844, 642, 122, 142, 143, 5, 144, 865, 866, 867, 868, 869, 870, 871, 872, 873, 874, 875, 876, 877, 878, 879, 880, 881, 882, 883, 884, 885, 886, 887, 888, 889, 890, 891, 892, 893] (by decide +kernel) (by decide +kernel)
set_option maxRecDepth 20000 in
theorem gL_law_X7_answered : GoodIn wsL_law (wsV RL 79 RX7 yX7_answered wsX7_answered) := goodIn_app (goodIn_of _ (by decide +kernel)) ggL_law_X7_answered
set_option maxRecDepth 20000 in
theorem ggL_law_X6_turn : GoodIn wsL_law wsX6_turn := goodIn_r _ [848, 32, 16, 620, 621, 622, 31, 623, 98, 624, 129, 130, 15, 131, 45, 849, 850, 851, 852, 853, 185, 186, 187, 188, 150, 151, 152, 44, 189, 133, 134, 135, 858, 859, 860, 861, 862, 863, 864, 912, 913, 914, 894, 895] (by decide +kernel) (by decide +kernel)
set_option maxRecDepth 20000 in
theorem gL_law_X6_turn : GoodIn wsL_law (wsV RL 80 RX6 yX6_turn wsX6_turn) := goodIn_app (goodIn_of _ (by decide +kernel)) ggL_law_X6_turn
set_option maxRecDepth 20000 in
theorem ggL_law_X7_turn : GoodIn wsL_law wsX7_turn := goodIn_r _ [857, 642, 105, 122, 140, 865, 866, 867, 868, 869, 870, 871, 872, 873, 874, 875, 876, 877, 878, 879, 880, 881, 882, 883, 884, 885, 886, 887, 888, 889, 890, 891, 892, 893] (by decide +kernel) (by decide +kernel)
set_option maxRecDepth 20000 in
theorem gL_law_X7_turn : GoodIn wsL_law (wsV RL 83 RX7 yX7_turn wsX7_turn) := goodIn_app (goodIn_of _ (by decide +kernel)) ggL_law_X7_turn
abbrev vwCl : List vw_C := [(RX0, TX0, 2), (RX1, TX1, 6), (RX2, TX2, 5), (RX3, TX3, 5), (RX4, TX4, 3), (RX5, TX5, 3), (RX6, TX6, 7), (RX7, TX7, 29)]
set_option maxRecDepth 100000 in
theorem in_X0_append_0 : ∀ w ∈ wsX00, w ∈ wsX0_append := by decide +kernel
set_option maxRecDepth 100000 in
theorem in_X0_at_0 : ∀ w ∈ wsX00, w ∈ wsX0_at := by decide +kernel
set_option maxRecDepth 100000 in
theorem in_X0_become_0 : ∀ w ∈ wsX00, w ∈ wsX0_become := by decide +kernel
set_option maxRecDepth 100000 in
theorem in_X0_init_0 : ∀ w ∈ wsX00, w ∈ wsX0_init := by decide +kernel
set_option maxRecDepth 100000 in
theorem in_X0_length_0 : ∀ w ∈ wsX00, w ∈ wsX0_length := by decide +kernel
set_option maxRecDepth 100000 in
theorem in_X0_shorten_0 : ∀ w ∈ wsX00, w ∈ wsX0_shorten := by decide +kernel
set_option maxRecDepth 100000 in
theorem in_X1_clear_1 : ∀ w ∈ wsX10, w ∈ wsX1_clear := by decide +kernel
set_option maxRecDepth 100000 in
theorem in_X1_init_1 : ∀ w ∈ wsX10, w ∈ wsX1_init := by decide +kernel
set_option maxRecDepth 100000 in
theorem in_X1_init_4 : ∀ w ∈ wsX40, w ∈ wsX1_init := by decide +kernel
set_option maxRecDepth 100000 in
theorem in_X2_init_2 : ∀ w ∈ wsX20, w ∈ wsX2_init := by decide +kernel
set_option maxRecDepth 100000 in
theorem in_X2_init_4 : ∀ w ∈ wsX40, w ∈ wsX2_init := by decide +kernel
set_option maxRecDepth 100000 in
theorem in_X3_closer_3 : ∀ w ∈ wsX30, w ∈ wsX3_closer := by decide +kernel
set_option maxRecDepth 100000 in
theorem in_X3_init_0 : ∀ w ∈ wsX00, w ∈ wsX3_init := by decide +kernel
set_option maxRecDepth 100000 in
theorem in_X3_init_3 : ∀ w ∈ wsX30, w ∈ wsX3_init := by decide +kernel
set_option maxRecDepth 100000 in
theorem in_X3_init_4 : ∀ w ∈ wsX40, w ∈ wsX3_init := by decide +kernel
set_option maxRecDepth 100000 in
theorem in_X3_opens_3 : ∀ w ∈ wsX30, w ∈ wsX3_opens := by decide +kernel
set_option maxRecDepth 100000 in
theorem in_X3_splitter_3 : ∀ w ∈ wsX30, w ∈ wsX3_splitter := by decide +kernel
set_option maxRecDepth 100000 in
theorem in_X3_take_3 : ∀ w ∈ wsX30, w ∈ wsX3_take := by decide +kernel
set_option maxRecDepth 100000 in
theorem in_X4_init_4 : ∀ w ∈ wsX40, w ∈ wsX4_init := by decide +kernel
set_option maxRecDepth 100000 in
theorem in_X5_at_5 : ∀ w ∈ wsX50, w ∈ wsX5_at := by decide +kernel
set_option maxRecDepth 100000 in
theorem in_X5_init_0 : ∀ w ∈ wsX00, w ∈ wsX5_init := by decide +kernel
set_option maxRecDepth 100000 in
theorem in_X5_init_5 : ∀ w ∈ wsX50, w ∈ wsX5_init := by decide +kernel
set_option maxRecDepth 100000 in
theorem in_X5_length_5 : ∀ w ∈ wsX50, w ∈ wsX5_length := by decide +kernel
set_option maxRecDepth 100000 in
theorem in_X6_answer_6 : ∀ w ∈ wsX60, w ∈ wsX6_answer := by decide +kernel
set_option maxRecDepth 100000 in
theorem in_X6_answered_6 : ∀ w ∈ wsX60, w ∈ wsX6_answered := by decide +kernel
set_option maxRecDepth 100000 in
theorem in_X6_byteOf_6 : ∀ w ∈ wsX60, w ∈ wsX6_byteOf := by decide +kernel
set_option maxRecDepth 100000 in
theorem in_X6_claim_6 : ∀ w ∈ wsX60, w ∈ wsX6_claim := by decide +kernel
set_option maxRecDepth 100000 in
theorem in_X6_count_6 : ∀ w ∈ wsX60, w ∈ wsX6_count := by decide +kernel
set_option maxRecDepth 100000 in
theorem in_X6_cut_6 : ∀ w ∈ wsX60, w ∈ wsX6_cut := by decide +kernel
set_option maxRecDepth 100000 in
theorem in_X6_fault_6 : ∀ w ∈ wsX60, w ∈ wsX6_fault := by decide +kernel
set_option maxRecDepth 100000 in
theorem in_X6_feed_6 : ∀ w ∈ wsX60, w ∈ wsX6_feed := by decide +kernel
set_option maxRecDepth 100000 in
theorem in_X6_group_6 : ∀ w ∈ wsX60, w ∈ wsX6_group := by decide +kernel
set_option maxRecDepth 100000 in
theorem in_X6_init_0 : ∀ w ∈ wsX00, w ∈ wsX6_init := by decide +kernel
set_option maxRecDepth 100000 in
theorem in_X6_init_1 : ∀ w ∈ wsX10, w ∈ wsX6_init := by decide +kernel
set_option maxRecDepth 100000 in
theorem in_X6_init_2 : ∀ w ∈ wsX20, w ∈ wsX6_init := by decide +kernel
set_option maxRecDepth 100000 in
theorem in_X6_init_3 : ∀ w ∈ wsX30, w ∈ wsX6_init := by decide +kernel
set_option maxRecDepth 100000 in
theorem in_X6_init_5 : ∀ w ∈ wsX50, w ∈ wsX6_init := by decide +kernel
set_option maxRecDepth 100000 in
theorem in_X6_init_6 : ∀ w ∈ wsX60, w ∈ wsX6_init := by decide +kernel
set_option maxRecDepth 100000 in
theorem in_X6_level_6 : ∀ w ∈ wsX60, w ∈ wsX6_level := by decide +kernel
set_option maxRecDepth 100000 in
theorem in_X6_read_6 : ∀ w ∈ wsX60, w ∈ wsX6_read := by decide +kernel
set_option maxRecDepth 100000 in
theorem in_X6_set_6 : ∀ w ∈ wsX60, w ∈ wsX6_set := by decide +kernel
set_option maxRecDepth 100000 in
theorem in_X6_setOf_6 : ∀ w ∈ wsX60, w ∈ wsX6_setOf := by decide +kernel
set_option maxRecDepth 100000 in
theorem in_X6_size_6 : ∀ w ∈ wsX60, w ∈ wsX6_size := by decide +kernel
set_option maxRecDepth 100000 in
theorem in_X6_tell_6 : ∀ w ∈ wsX60, w ∈ wsX6_tell := by decide +kernel
set_option maxRecDepth 100000 in
theorem in_X6_turn_6 : ∀ w ∈ wsX60, w ∈ wsX6_turn := by decide +kernel
set_option maxRecDepth 100000 in
theorem in_X6_where_6 : ∀ w ∈ wsX60, w ∈ wsX6_where := by decide +kernel
set_option maxRecDepth 100000 in
theorem in_X7_answer_7 : ∀ w ∈ wsX70, w ∈ wsX7_answer := by decide +kernel
set_option maxRecDepth 100000 in
theorem in_X7_answered_7 : ∀ w ∈ wsX70, w ∈ wsX7_answered := by decide +kernel
set_option maxRecDepth 100000 in
theorem in_X7_byteOf_7 : ∀ w ∈ wsX70, w ∈ wsX7_byteOf := by decide +kernel
set_option maxRecDepth 100000 in
theorem in_X7_claim_7 : ∀ w ∈ wsX70, w ∈ wsX7_claim := by decide +kernel
set_option maxRecDepth 100000 in
theorem in_X7_count_7 : ∀ w ∈ wsX70, w ∈ wsX7_count := by decide +kernel
set_option maxRecDepth 100000 in
theorem in_X7_cut_7 : ∀ w ∈ wsX70, w ∈ wsX7_cut := by decide +kernel
set_option maxRecDepth 100000 in
theorem in_X7_fault_7 : ∀ w ∈ wsX70, w ∈ wsX7_fault := by decide +kernel
set_option maxRecDepth 100000 in
theorem in_X7_feed_7 : ∀ w ∈ wsX70, w ∈ wsX7_feed := by decide +kernel
set_option maxRecDepth 100000 in
theorem in_X7_found_7 : ∀ w ∈ wsX70, w ∈ wsX7_found := by decide +kernel
set_option maxRecDepth 100000 in
theorem in_X7_group_7 : ∀ w ∈ wsX70, w ∈ wsX7_group := by decide +kernel
set_option maxRecDepth 100000 in
theorem in_X7_init_7 : ∀ w ∈ wsX70, w ∈ wsX7_init := by decide +kernel
set_option maxRecDepth 100000 in
theorem in_X7_isOpening_7 : ∀ w ∈ wsX70, w ∈ wsX7_isOpening := by decide +kernel
set_option maxRecDepth 100000 in
theorem in_X7_level_7 : ∀ w ∈ wsX70, w ∈ wsX7_level := by decide +kernel
set_option maxRecDepth 100000 in
theorem in_X7_set_7 : ∀ w ∈ wsX70, w ∈ wsX7_set := by decide +kernel
set_option maxRecDepth 100000 in
theorem in_X7_setOf_7 : ∀ w ∈ wsX70, w ∈ wsX7_setOf := by decide +kernel
set_option maxRecDepth 100000 in
theorem in_X7_size_7 : ∀ w ∈ wsX70, w ∈ wsX7_size := by decide +kernel
set_option maxRecDepth 100000 in
theorem in_X7_turn_7 : ∀ w ∈ wsX70, w ∈ wsX7_turn := by decide +kernel
set_option maxRecDepth 100000 in
theorem in_X7_where_7 : ∀ w ∈ wsX70, w ∈ wsX7_where := by decide +kernel
