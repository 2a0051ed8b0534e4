theorem goodIn_r {big : List Cond} (ws : List Cond) (ps : List Nat) (hp : ws = ps.filterMap (fun i => big[i]?)) (h : ws.all goodWord = true) : GoodIn big ws := by
  intro w hw
  have h1 := List.all_eq_true.mp h w hw
  rw [hp] at hw
  obtain ⟨i, -, hi⟩ := List.mem_filterMap.mp hw
  have hm : w ∈ big := by first | exact List.mem_of_getElem? hi | exact List.getElem?_mem hi
  exact ⟨hm, good_of_word h1⟩
def RX0 : String := "LoopEnvelopes$Bytes"
def TX0 : u_T := fun k => match k with
  | 0 => ("LoopEnvelopes$Bytes", "cells", "[B", true)
  | _ => ("LoopEnvelopes$Bytes", "used", "I", false)
def tyX0 : Nat → FieldType := fun k => match k with
  | 0 => .array .byte
  | _ => .int
abbrev wsX00 : List Cond := u_ws RX0 TX0 2
theorem nmX0 : ∀ a, a < 2 → ∀ b, b < 2 → a ≠ b → (TX0 a).2.1 ≠ (TX0 b).2.1 := by decide +kernel
theorem tyX0_ok : ∀ k, k < 2 → parseFieldDescriptor (TX0 k).2.2.1 = some (tyX0 k) := by decide +kernel
abbrev cX0_init : ByteArray := prog_2_method_1_code
def yX0_init : MethodName := ⟨RX0, "<init>", "(I)V"⟩
abbrev cX0_length : ByteArray := prog_2_method_2_code
def yX0_length : MethodName := ⟨RX0, "length", "()I"⟩
abbrev cX0_at : ByteArray := prog_2_method_3_code
def yX0_at : MethodName := ⟨RX0, "at", "(I)I"⟩
abbrev cX0_append : ByteArray := prog_2_method_5_code
def yX0_append : MethodName := ⟨RX0, "append", "(I)Z"⟩
abbrev cX0_shorten : ByteArray := prog_2_method_6_code
def yX0_shorten : MethodName := ⟨RX0, "shorten", "(I)V"⟩
abbrev cX0_become : ByteArray := prog_2_method_7_code
def yX0_become : MethodName := ⟨RX0, "become", "(LLoopEnvelopes$Bytes;)V"⟩
def RX1 : String := "LoopEnvelopes$Frames"
def TX1 : u_T := fun k => match k with
  | 0 => ("LoopEnvelopes$Frames", "segments", "LLoopEnvelopes$Segments;", true)
  | 1 => ("LoopEnvelopes$Frames", "groups", "LLoopEnvelopes$Table;", true)
  | 2 => ("LoopEnvelopes$Frames", "sets", "LLoopEnvelopes$Table;", true)
  | 3 => ("LoopEnvelopes$Frames", "groupsHeld", "I", false)
  | 4 => ("LoopEnvelopes$Frames", "setsHeld", "I", false)
  | _ => ("LoopEnvelopes$Frames", "stage", "I", false)
def tyX1 : Nat → FieldType := fun k => match k with
  | 0 => .object "LoopEnvelopes$Segments"
  | 1 => .object "LoopEnvelopes$Table"
  | 2 => .object "LoopEnvelopes$Table"
  | 3 => .int
  | 4 => .int
  | _ => .int
abbrev wsX10 : List Cond := u_ws RX1 TX1 6
theorem nmX1 : ∀ a, a < 6 → ∀ b, b < 6 → a ≠ b → (TX1 a).2.1 ≠ (TX1 b).2.1 := by decide +kernel
theorem tyX1_ok : ∀ k, k < 6 → parseFieldDescriptor (TX1 k).2.2.1 = some (tyX1 k) := by decide +kernel
abbrev cX1_init : ByteArray := prog_3_method_1_code
def yX1_init : MethodName := ⟨RX1, "<init>", "(LLoopEnvelopes$Segments;)V"⟩
abbrev cX1_clear : ByteArray := prog_3_method_2_code
def yX1_clear : MethodName := ⟨RX1, "clear", "()V"⟩
def RX2 : String := "LoopEnvelopes$Judge"
def TX2 : u_T := fun k => match k with
  | 0 => ("LoopEnvelopes$Judge", "segments", "LLoopEnvelopes$Segments;", true)
  | 1 => ("LoopEnvelopes$Judge", "frames", "LLoopEnvelopes$Frames;", true)
  | 2 => ("LoopEnvelopes$Judge", "marks", "LLoopEnvelopes$Table;", true)
  | 3 => ("LoopEnvelopes$Judge", "first", "I", false)
  | _ => ("LoopEnvelopes$Judge", "end", "I", false)
def tyX2 : Nat → FieldType := fun k => match k with
  | 0 => .object "LoopEnvelopes$Segments"
  | 1 => .object "LoopEnvelopes$Frames"
  | 2 => .object "LoopEnvelopes$Table"
  | 3 => .int
  | _ => .int
abbrev wsX20 : List Cond := u_ws RX2 TX2 5
theorem nmX2 : ∀ a, a < 5 → ∀ b, b < 5 → a ≠ b → (TX2 a).2.1 ≠ (TX2 b).2.1 := by decide +kernel
theorem tyX2_ok : ∀ k, k < 5 → parseFieldDescriptor (TX2 k).2.2.1 = some (tyX2 k) := by decide +kernel
abbrev cX2_init : ByteArray := prog_4_method_1_code
def yX2_init : MethodName := ⟨RX2, "<init>", "(LLoopEnvelopes$Segments;LLoopEnvelopes$Frames;)V"⟩
def RX3 : String := "LoopEnvelopes$Segments"
def TX3 : u_T := fun k => match k with
  | 0 => ("LoopEnvelopes$Segments", "bytes", "LLoopEnvelopes$Bytes;", true)
  | 1 => ("LoopEnvelopes$Segments", "begins", "LLoopEnvelopes$Table;", true)
  | 2 => ("LoopEnvelopes$Segments", "names", "LLoopEnvelopes$Table;", true)
  | 3 => ("LoopEnvelopes$Segments", "elements", "LLoopEnvelopes$Table;", true)
  | _ => ("LoopEnvelopes$Segments", "held", "I", false)
def tyX3 : Nat → FieldType := fun k => match k with
  | 0 => .object "LoopEnvelopes$Bytes"
  | 1 => .object "LoopEnvelopes$Table"
  | 2 => .object "LoopEnvelopes$Table"
  | 3 => .object "LoopEnvelopes$Table"
  | _ => .int
abbrev wsX30 : List Cond := u_ws RX3 TX3 5
theorem nmX3 : ∀ a, a < 5 → ∀ b, b < 5 → a ≠ b → (TX3 a).2.1 ≠ (TX3 b).2.1 := by decide +kernel
theorem tyX3_ok : ∀ k, k < 5 → parseFieldDescriptor (TX3 k).2.2.1 = some (tyX3 k) := by decide +kernel
abbrev cX3_init : ByteArray := prog_5_method_1_code
def yX3_init : MethodName := ⟨RX3, "<init>", "()V"⟩
abbrev cX3_take : ByteArray := prog_5_method_2_code
def yX3_take : MethodName := ⟨RX3, "take", "(LLoopEnvelopes$Bytes;)V"⟩
abbrev cX3_splitter : ByteArray := prog_5_method_5_code
def yX3_splitter : MethodName := ⟨RX3, "splitter", "()I"⟩
abbrev cX3_closer : ByteArray := prog_5_method_6_code
def yX3_closer : MethodName := ⟨RX3, "closer", "()I"⟩
abbrev cX3_opens : ByteArray := prog_5_method_8_code
def yX3_opens : MethodName := ⟨RX3, "opens", "()Z"⟩
def RX4 : String := "LoopEnvelopes$Table"
def TX4 : u_T := fun k => match k with
  | 0 => ("LoopEnvelopes$Table", "rows", "I", true)
  | 1 => ("LoopEnvelopes$Table", "columns", "I", true)
  | _ => ("LoopEnvelopes$Table", "cells", "[I", true)
def tyX4 : Nat → FieldType := fun k => match k with
  | 0 => .int
  | 1 => .int
  | _ => .array .int
abbrev wsX40 : List Cond := u_ws RX4 TX4 3
theorem nmX4 : ∀ a, a < 3 → ∀ b, b < 3 → a ≠ b → (TX4 a).2.1 ≠ (TX4 b).2.1 := by decide +kernel
theorem tyX4_ok : ∀ k, k < 3 → parseFieldDescriptor (TX4 k).2.2.1 = some (tyX4 k) := by decide +kernel
abbrev cX4_init : ByteArray := prog_6_method_1_code
def yX4_init : MethodName := ⟨RX4, "<init>", "(II)V"⟩
def RX5 : String := "LoopEnvelopes$Writer"
def TX5 : u_T := fun k => match k with
  | 0 => ("LoopEnvelopes$Writer", "segments", "LLoopEnvelopes$Segments;", true)
  | 1 => ("LoopEnvelopes$Writer", "bytes", "LLoopEnvelopes$Bytes;", true)
  | _ => ("LoopEnvelopes$Writer", "over", "Z", false)
def tyX5 : Nat → FieldType := fun k => match k with
  | 0 => .object "LoopEnvelopes$Segments"
  | 1 => .object "LoopEnvelopes$Bytes"
  | _ => .boolean
abbrev wsX50 : List Cond := u_ws RX5 TX5 3
theorem nmX5 : ∀ a, a < 3 → ∀ b, b < 3 → a ≠ b → (TX5 a).2.1 ≠ (TX5 b).2.1 := by decide +kernel
theorem tyX5_ok : ∀ k, k < 3 → parseFieldDescriptor (TX5 k).2.2.1 = some (tyX5 k) := by decide +kernel
abbrev cX5_init : ByteArray := prog_7_method_1_code
def yX5_init : MethodName := ⟨RX5, "<init>", "(LLoopEnvelopes$Segments;)V"⟩
abbrev cX5_length : ByteArray := prog_7_method_2_code
def yX5_length : MethodName := ⟨RX5, "length", "()I"⟩
abbrev cX5_at : ByteArray := prog_7_method_3_code
def yX5_at : MethodName := ⟨RX5, "at", "(I)I"⟩
def RX6 : String := "LoopEnvelopes"
def TX6 : u_T := fun k => match k with
  | 0 => ("LoopEnvelopes", "text", "LLoopEnvelopes$Bytes;", true)
  | 1 => ("LoopEnvelopes", "segments", "LLoopEnvelopes$Segments;", true)
  | 2 => ("LoopEnvelopes", "frames", "LLoopEnvelopes$Frames;", true)
  | 3 => ("LoopEnvelopes", "judge", "LLoopEnvelopes$Judge;", true)
  | 4 => ("LoopEnvelopes", "writer", "LLoopEnvelopes$Writer;", true)
  | 5 => ("LoopEnvelopes", "place", "I", false)
  | _ => ("LoopEnvelopes", "taken", "Z", false)
def tyX6 : Nat → FieldType := fun k => match k with
  | 0 => .object "LoopEnvelopes$Bytes"
  | 1 => .object "LoopEnvelopes$Segments"
  | 2 => .object "LoopEnvelopes$Frames"
  | 3 => .object "LoopEnvelopes$Judge"
  | 4 => .object "LoopEnvelopes$Writer"
  | 5 => .int
  | _ => .boolean
abbrev wsX60 : List Cond := u_ws RX6 TX6 7
theorem nmX6 : ∀ a, a < 7 → ∀ b, b < 7 → a ≠ b → (TX6 a).2.1 ≠ (TX6 b).2.1 := by decide +kernel
theorem tyX6_ok : ∀ k, k < 7 → parseFieldDescriptor (TX6 k).2.2.1 = some (tyX6 k) := by decide +kernel
abbrev cX6_init : ByteArray := prog_1_method_1_code
def yX6_init : MethodName := ⟨RX6, "<init>", "()V"⟩
abbrev cX6_feed : ByteArray := prog_1_method_2_code
def yX6_feed : MethodName := ⟨RX6, "feed", "(JI)I"⟩
abbrev cX6_set : ByteArray := prog_1_method_3_code
def yX6_set : MethodName := ⟨RX6, "set", "(II)I"⟩
abbrev cX6_cut : ByteArray := prog_1_method_4_code
def yX6_cut : MethodName := ⟨RX6, "cut", "(I)I"⟩
abbrev cX6_read : ByteArray := prog_1_method_5_code
def yX6_read : MethodName := ⟨RX6, "read", "()I"⟩
abbrev cX6_where : ByteArray := prog_1_method_6_code
def yX6_where : MethodName := ⟨RX6, "where", "()I"⟩
abbrev cX6_count : ByteArray := prog_1_method_7_code
def yX6_count : MethodName := ⟨RX6, "count", "(I)I"⟩
abbrev cX6_group : ByteArray := prog_1_method_8_code
def yX6_group : MethodName := ⟨RX6, "group", "(II)I"⟩
abbrev cX6_setOf : ByteArray := prog_1_method_9_code
def yX6_setOf : MethodName := ⟨RX6, "setOf", "(II)I"⟩
abbrev cX6_fault : ByteArray := prog_1_method_10_code
def yX6_fault : MethodName := ⟨RX6, "fault", "(III)I"⟩
abbrev cX6_level : ByteArray := prog_1_method_11_code
def yX6_level : MethodName := ⟨RX6, "level", "(III)I"⟩
abbrev cX6_claim : ByteArray := prog_1_method_12_code
def yX6_claim : MethodName := ⟨RX6, "claim", "(III)I"⟩
abbrev cX6_size : ByteArray := prog_1_method_13_code
def yX6_size : MethodName := ⟨RX6, "size", "(II)I"⟩
abbrev cX6_byteOf : ByteArray := prog_1_method_14_code
def yX6_byteOf : MethodName := ⟨RX6, "byteOf", "(III)I"⟩
abbrev cX6_answer : ByteArray := prog_1_method_15_code
def yX6_answer : MethodName := ⟨RX6, "answer", "()I"⟩
abbrev cX6_answered : ByteArray := prog_1_method_16_code
def yX6_answered : MethodName := ⟨RX6, "answered", "(I)I"⟩
abbrev cX6_turn : ByteArray := prog_1_method_17_code
def yX6_turn : MethodName := ⟨RX6, "turn", "()I"⟩
abbrev cX6_tell : ByteArray := prog_1_method_19_code
def yX6_tell : MethodName := ⟨RX6, "tell", "(II)I"⟩
def RX7 : String := "LoopEnvelopesModel"
def TX7 : u_T := fun k => match k with
  | 0 => ("LoopEnvelopesModel", "size", "I", false)
  | 1 => ("LoopEnvelopesModel", "text", "[I", true)
  | 2 => ("LoopEnvelopesModel", "isTaken", "Z", false)
  | 3 => ("LoopEnvelopesModel", "where", "I", false)
  | 4 => ("LoopEnvelopesModel", "e", "I", false)
  | 5 => ("LoopEnvelopesModel", "p", "I", false)
  | 6 => ("LoopEnvelopesModel", "s", "I", false)
  | 7 => ("LoopEnvelopesModel", "was", "[I", true)
  | 8 => ("LoopEnvelopesModel", "number", "I", false)
  | 9 => ("LoopEnvelopesModel", "segments", "I", false)
  | 10 => ("LoopEnvelopesModel", "nameOf", "[I", true)
  | 11 => ("LoopEnvelopesModel", "elements", "[I", true)
  | 12 => ("LoopEnvelopesModel", "from", "[I", true)
  | 13 => ("LoopEnvelopesModel", "long0", "[I", true)
  | 14 => ("LoopEnvelopesModel", "isIll", "[Z", true)
  | 15 => ("LoopEnvelopesModel", "fault", "[I", true)
  | 16 => ("LoopEnvelopesModel", "depth", "[I", true)
  | 17 => ("LoopEnvelopesModel", "groups", "I", false)
  | 18 => ("LoopEnvelopesModel", "groupSegment", "[I", true)
  | 19 => ("LoopEnvelopesModel", "groupFirst", "[I", true)
  | 20 => ("LoopEnvelopesModel", "groupSets", "[I", true)
  | 21 => ("LoopEnvelopesModel", "sets", "I", false)
  | 22 => ("LoopEnvelopesModel", "setGroup", "[I", true)
  | 23 => ("LoopEnvelopesModel", "setFirst", "[I", true)
  | 24 => ("LoopEnvelopesModel", "setMany", "[I", true)
  | 25 => ("LoopEnvelopesModel", "answered", "I", false)
  | 26 => ("LoopEnvelopesModel", "answer", "[I", true)
  | 27 => ("LoopEnvelopesModel", "isFull", "Z", false)
  | _ => ("LoopEnvelopesModel", "state", "I", false)
def tyX7 : Nat → FieldType := fun k => match k with
  | 0 => .int
  | 1 => .array .int
  | 2 => .boolean
  | 3 => .int
  | 4 => .int
  | 5 => .int
  | 6 => .int
  | 7 => .array .int
  | 8 => .int
  | 9 => .int
  | 10 => .array .int
  | 11 => .array .int
  | 12 => .array .int
  | 13 => .array .int
  | 14 => .array .boolean
  | 15 => .array .int
  | 16 => .array .int
  | 17 => .int
  | 18 => .array .int
  | 19 => .array .int
  | 20 => .array .int
  | 21 => .int
  | 22 => .array .int
  | 23 => .array .int
  | 24 => .array .int
  | 25 => .int
  | 26 => .array .int
  | 27 => .boolean
  | _ => .int
abbrev wsX70 : List Cond := u_ws RX7 TX7 29
theorem nmX7 : ∀ a, a < 29 → ∀ b, b < 29 → a ≠ b → (TX7 a).2.1 ≠ (TX7 b).2.1 := by decide +kernel
theorem tyX7_ok : ∀ k, k < 29 → parseFieldDescriptor (TX7 k).2.2.1 = some (tyX7 k) := by decide +kernel
abbrev cX7_init : ByteArray := prog_9_method_1_code
def yX7_init : MethodName := ⟨RX7, "<init>", "()V"⟩
abbrev cX7_in : ByteArray := prog_9_method_2_code
def yX7_in : MethodName := ⟨RX7, "in", "(III)Z"⟩
abbrev cX7_feed : ByteArray := prog_9_method_3_code
def yX7_feed : MethodName := ⟨RX7, "feed", "(JI)I"⟩
abbrev cX7_set : ByteArray := prog_9_method_4_code
def yX7_set : MethodName := ⟨RX7, "set", "(II)I"⟩
abbrev cX7_cut : ByteArray := prog_9_method_5_code
def yX7_cut : MethodName := ⟨RX7, "cut", "(I)I"⟩
abbrev cX7_isOpening : ByteArray := prog_9_method_10_code
def yX7_isOpening : MethodName := ⟨RX7, "isOpening", "()Z"⟩
abbrev cX7_found : ByteArray := prog_9_method_25_code
def yX7_found : MethodName := ⟨RX7, "found", "(II)I"⟩
abbrev cX7_read : ByteArray := prog_9_method_30_code
def yX7_read : MethodName := ⟨RX7, "read", "()I"⟩
abbrev cX7_where : ByteArray := prog_9_method_45_code
def yX7_where : MethodName := ⟨RX7, "where", "()I"⟩
abbrev cX7_count : ByteArray := prog_9_method_47_code
def yX7_count : MethodName := ⟨RX7, "count", "(I)I"⟩
abbrev cX7_group : ByteArray := prog_9_method_48_code
def yX7_group : MethodName := ⟨RX7, "group", "(II)I"⟩
abbrev cX7_setOf : ByteArray := prog_9_method_49_code
def yX7_setOf : MethodName := ⟨RX7, "setOf", "(II)I"⟩
abbrev cX7_fault : ByteArray := prog_9_method_51_code
def yX7_fault : MethodName := ⟨RX7, "fault", "(III)I"⟩
abbrev cX7_level : ByteArray := prog_9_method_52_code
def yX7_level : MethodName := ⟨RX7, "level", "(III)I"⟩
abbrev cX7_claim : ByteArray := prog_9_method_53_code
def yX7_claim : MethodName := ⟨RX7, "claim", "(III)I"⟩
abbrev cX7_size : ByteArray := prog_9_method_54_code
def yX7_size : MethodName := ⟨RX7, "size", "(II)I"⟩
abbrev cX7_byteOf : ByteArray := prog_9_method_55_code
def yX7_byteOf : MethodName := ⟨RX7, "byteOf", "(III)I"⟩
abbrev cX7_answer : ByteArray := prog_9_method_62_code
def yX7_answer : MethodName := ⟨RX7, "answer", "()I"⟩
abbrev cX7_answered : ByteArray := prog_9_method_63_code
def yX7_answered : MethodName := ⟨RX7, "answered", "(I)I"⟩
abbrev cX7_turn : ByteArray := prog_9_method_64_code
def yX7_turn : MethodName := ⟨RX7, "turn", "()I"⟩
def RL : String := "LoopEnvelopesLaw"
abbrev cL_law : ByteArray := code
abbrev vwCl : List vw_C := [(RX0, TX0, 2), (RX1, TX1, 6), (RX2, TX2, 5), (RX3, TX3, 5), (RX4, TX4, 3), (RX5, TX5, 3), (RX6, TX6, 7), (RX7, TX7, 29)]
def pw_0 : List Cond := [.methodLink RX0 3 objectInit, .instanceMethod objectInit, .code objectInit ⟨#[0xb1]⟩ 1 none, .methodLink RX0 9 Lib.Math.max.name, .static Lib.Math.max.name, .initialized "java/lang/Math", .code Lib.Math.max.name Lib.Math.max.code 2 (some .int), .arrayClass .byte, .fieldLink RX0 15 "LoopEnvelopes$Bytes" "cells" "[B", .fieldLink RX0 21 "LoopEnvelopes$Bytes" "used" "I", .methodLink RX4 3 objectInit, .fieldLink RX4 9 "LoopEnvelopes$Table" "rows" "I", .fieldLink RX4 15 "LoopEnvelopes$Table" "columns" "I", .methodLink RX4 18 Lib.Math.max.name, .arrayClass .int, .fieldLink RX4 24 "LoopEnvelopes$Table" "cells" "[I"]
def pw_1 : List Cond := [.methodLink RX3 3 objectInit, .classLink RX3 9 RX0, .instantiable RX0 2, .initialized RX0, .code yX0_init cX0_init 2 none, .methodLink RX3 11 yX0_init, .instanceMethod yX0_init, .fieldLink RX3 14 "LoopEnvelopes$Segments" "bytes" "LLoopEnvelopes$Bytes;", .classLink RX3 20 RX4, .instantiable RX4 3, .initialized RX4, .code yX4_init cX4_init 3 none, .methodLink RX3 22 yX4_init, .instanceMethod yX4_init, .fieldLink RX3 25 "LoopEnvelopes$Segments" "begins" "LLoopEnvelopes$Table;", .fieldLink RX3 29 "LoopEnvelopes$Segments" "names" "LLoopEnvelopes$Table;"]
def pw_2 : List Cond := [.fieldLink RX3 32 "LoopEnvelopes$Segments" "elements" "LLoopEnvelopes$Table;", .fieldLink RX3 35 "LoopEnvelopes$Segments" "held" "I", .methodLink RX1 3 objectInit, .fieldLink RX1 9 "LoopEnvelopes$Frames" "segments" "LLoopEnvelopes$Segments;", .classLink RX1 15 RX4, .methodLink RX1 17 yX4_init, .fieldLink RX1 20 "LoopEnvelopes$Frames" "groups" "LLoopEnvelopes$Table;", .fieldLink RX1 24 "LoopEnvelopes$Frames" "sets" "LLoopEnvelopes$Table;", .fieldLink RX1 27 "LoopEnvelopes$Frames" "groupsHeld" "I", .fieldLink RX1 31 "LoopEnvelopes$Frames" "setsHeld" "I", .fieldLink RX1 34 "LoopEnvelopes$Frames" "stage" "I", .methodLink RX2 3 objectInit, .fieldLink RX2 9 "LoopEnvelopes$Judge" "segments" "LLoopEnvelopes$Segments;", .fieldLink RX2 15 "LoopEnvelopes$Judge" "frames" "LLoopEnvelopes$Frames;", .classLink RX2 19 RX4, .methodLink RX2 21 yX4_init]
def pw_3 : List Cond := [.fieldLink RX2 24 "LoopEnvelopes$Judge" "marks" "LLoopEnvelopes$Table;", .fieldLink RX2 28 "LoopEnvelopes$Judge" "first" "I", .fieldLink RX2 32 "LoopEnvelopes$Judge" "end" "I", .methodLink RX5 3 objectInit, .fieldLink RX5 9 "LoopEnvelopes$Writer" "segments" "LLoopEnvelopes$Segments;", .classLink RX5 15 RX0, .methodLink RX5 17 yX0_init, .fieldLink RX5 20 "LoopEnvelopes$Writer" "bytes" "LLoopEnvelopes$Bytes;", .fieldLink RX5 24 "LoopEnvelopes$Writer" "over" "Z", .methodLink RX6 3 objectInit, .classLink RX6 9 RX0, .methodLink RX6 11 yX0_init, .fieldLink RX6 14 "LoopEnvelopes" "text" "LLoopEnvelopes$Bytes;", .classLink RX6 18 RX3, .instantiable RX3 5, .initialized RX3]
def pw_4 : List Cond := [.code yX3_init cX3_init 1 none, .methodLink RX6 20 yX3_init, .instanceMethod yX3_init, .fieldLink RX6 21 "LoopEnvelopes" "segments" "LLoopEnvelopes$Segments;", .classLink RX6 25 RX1, .instantiable RX1 6, .initialized RX1, .code yX1_init cX1_init 2 none, .methodLink RX6 27 yX1_init, .instanceMethod yX1_init, .fieldLink RX6 30 "LoopEnvelopes" "frames" "LLoopEnvelopes$Frames;", .classLink RX6 34 RX2, .instantiable RX2 5, .initialized RX2, .code yX2_init cX2_init 3 none, .methodLink RX6 36 yX2_init]
def pw_5 : List Cond := [.instanceMethod yX2_init, .fieldLink RX6 39 "LoopEnvelopes" "judge" "LLoopEnvelopes$Judge;", .classLink RX6 43 RX5, .instantiable RX5 3, .initialized RX5, .code yX5_init cX5_init 2 none, .methodLink RX6 45 yX5_init, .instanceMethod yX5_init, .fieldLink RX6 46 "LoopEnvelopes" "writer" "LLoopEnvelopes$Writer;", .fieldLink RX6 50 "LoopEnvelopes" "place" "I", .fieldLink RX6 54 "LoopEnvelopes" "taken" "Z", .methodLink RX0 25 Lib.Math.min.name, .static Lib.Math.min.name, .code Lib.Math.min.name Lib.Math.min.code 2 (some .int), .methodLink RX3 39 yX0_become, .instanceMethod yX0_become]
def pw_6 : List Cond := [.selects RX0 yX0_become yX0_become, .code yX0_become cX0_become 3 none, .methodLink RX3 47 yX0_at, .instanceMethod yX0_at, .selects RX0 yX0_at yX0_at, .code yX0_at cX0_at 2 (some .int), .methodLink RX3 55 yX3_splitter, .instanceMethod yX3_splitter, .selects RX3 yX3_splitter yX3_splitter, .code yX3_splitter cX3_splitter 1 (some .int), .methodLink RX3 58 yX3_closer, .instanceMethod yX3_closer, .selects RX3 yX3_closer yX3_closer, .code yX3_closer cX3_closer 1 (some .int), .methodLink RX3 43 yX0_length, .instanceMethod yX0_length]
def pw_7 : List Cond := [.selects RX0 yX0_length yX0_length, .code yX0_length cX0_length 1 (some .int), .methodLink RX5 32 yX0_at, .methodLink RX5 28 yX0_length, .methodLink RX6 58 yX0_length, .methodLink RX6 76 yX0_shorten, .instanceMethod yX0_shorten, .selects RX0 yX0_shorten yX0_shorten, .code yX0_shorten cX0_shorten 2 none, .methodLink RX6 103 yX5_length, .instanceMethod yX5_length, .selects RX5 yX5_length yX5_length, .code yX5_length cX5_length 1 (some .int), .methodLink RX6 169 yX5_at, .instanceMethod yX5_at, .selects RX5 yX5_at yX5_at]
def pw_8 : List Cond := [.code yX5_at cX5_at 2 (some .int), .methodLink RX6 79 yX3_take, .instanceMethod yX3_take, .selects RX3 yX3_take yX3_take, .code yX3_take cX3_take 2 none, .methodLink RX6 83 yX1_clear, .instanceMethod yX1_clear, .selects RX1 yX1_clear yX1_clear, .code yX1_clear cX1_clear 1 none, .methodLink RX6 86 yX3_opens, .instanceMethod yX3_opens, .selects RX3 yX3_opens yX3_opens, .code yX3_opens cX3_opens 4 (some .boolean), .methodLink RX6 93 yX6_tell, .instanceMethod yX6_tell, .selects RX6 yX6_tell yX6_tell]
def pw_9 : List Cond := [.initialized RX6, .code yX6_tell cX6_tell 3 (some .int), .constantLong RX6 62 (255), .methodLink RX6 64 yX0_append, .instanceMethod yX0_append, .selects RX0 yX0_append yX0_append, .code yX0_append cX0_append 2 (some .boolean), .methodLink RX7 1 objectInit, .fieldLink RX7 7 "LoopEnvelopesModel" "text" "[I", .fieldLink RX7 13 "LoopEnvelopesModel" "where" "I", .fieldLink RX7 17 "LoopEnvelopesModel" "was" "[I", .fieldLink RX7 20 "LoopEnvelopesModel" "nameOf" "[I", .fieldLink RX7 23 "LoopEnvelopesModel" "elements" "[I", .fieldLink RX7 26 "LoopEnvelopesModel" "from" "[I", .fieldLink RX7 29 "LoopEnvelopesModel" "long0" "[I", .arrayClass .boolean]
def pw_10 : List Cond := [.fieldLink RX7 32 "LoopEnvelopesModel" "isIll" "[Z", .fieldLink RX7 36 "LoopEnvelopesModel" "fault" "[I", .fieldLink RX7 39 "LoopEnvelopesModel" "depth" "[I", .fieldLink RX7 42 "LoopEnvelopesModel" "groupSegment" "[I", .fieldLink RX7 45 "LoopEnvelopesModel" "groupFirst" "[I", .fieldLink RX7 48 "LoopEnvelopesModel" "groupSets" "[I", .fieldLink RX7 51 "LoopEnvelopesModel" "setGroup" "[I", .fieldLink RX7 54 "LoopEnvelopesModel" "setFirst" "[I", .fieldLink RX7 57 "LoopEnvelopesModel" "setMany" "[I", .fieldLink RX7 60 "LoopEnvelopesModel" "answer" "[I", .fieldLink RX7 119 "LoopEnvelopesModel" "isTaken" "Z", .fieldLink RX7 67 "LoopEnvelopesModel" "size" "I", .methodLink RX7 63 yX7_in, .static yX7_in, .initialized RX7, .code yX7_in cX7_in 3 (some .boolean)]
def pw_11 : List Cond := [.fieldLink RX7 223 "LoopEnvelopesModel" "answered" "I", .methodLink RX7 147 yX7_isOpening, .instanceMethod yX7_isOpening, .selects RX7 yX7_isOpening yX7_isOpening, .code yX7_isOpening cX7_isOpening 3 (some .boolean), .methodLink RX7 151 yX7_found, .instanceMethod yX7_found, .selects RX7 yX7_found yX7_found, .code yX7_found cX7_found 3 (some .int), .constantLong RX7 70 (255), .classLink RL 7 RX6, .instantiable RX6 7, .code yX6_init cX6_init 1 none, .methodLink RL 9 yX6_init, .instanceMethod yX6_init, .classLink RL 10 RX7]
def pw_12 : List Cond := [.instantiable RX7 29, .code yX7_init cX7_init 1 none, .methodLink RL 12 yX7_init, .instanceMethod yX7_init, .constantLong RL 13 (4294967295), .methodLink RL 15 yX6_feed, .instanceMethod yX6_feed, .selects RX6 yX6_feed yX6_feed, .code yX6_feed cX6_feed 5 (some .int), .methodLink RL 19 yX7_feed, .instanceMethod yX7_feed, .selects RX7 yX7_feed yX7_feed, .code yX7_feed cX7_feed 5 (some .int), .methodLink RL 20 yX6_set, .instanceMethod yX6_set, .selects RX6 yX6_set yX6_set]
def pw_13 : List Cond := [.code yX6_set cX6_set 4 (some .int), .methodLink RL 24 yX7_set, .instanceMethod yX7_set, .selects RX7 yX7_set yX7_set, .code yX7_set cX7_set 4 (some .int), .methodLink RL 25 yX6_cut, .instanceMethod yX6_cut, .selects RX6 yX6_cut yX6_cut, .code yX6_cut cX6_cut 3 (some .int), .methodLink RL 29 yX7_cut, .instanceMethod yX7_cut, .selects RX7 yX7_cut yX7_cut, .code yX7_cut cX7_cut 3 (some .int), .methodLink RL 30 yX6_read, .instanceMethod yX6_read, .selects RX6 yX6_read yX6_read]
def pw_14 : List Cond := [.code yX6_read cX6_read 3 (some .int), .methodLink RL 34 yX7_read, .instanceMethod yX7_read, .selects RX7 yX7_read yX7_read, .code yX7_read cX7_read 5 (some .int), .methodLink RL 35 yX6_where, .instanceMethod yX6_where, .selects RX6 yX6_where yX6_where, .code yX6_where cX6_where 1 (some .int), .methodLink RL 38 yX7_where, .instanceMethod yX7_where, .selects RX7 yX7_where yX7_where, .code yX7_where cX7_where 1 (some .int), .methodLink RL 39 yX6_count, .instanceMethod yX6_count, .selects RX6 yX6_count yX6_count]
def pw_15 : List Cond := [.code yX6_count cX6_count 2 (some .int), .methodLink RL 42 yX7_count, .instanceMethod yX7_count, .selects RX7 yX7_count yX7_count, .code yX7_count cX7_count 2 (some .int), .methodLink RL 43 yX6_group, .instanceMethod yX6_group, .selects RX6 yX6_group yX6_group, .code yX6_group cX6_group 3 (some .int), .methodLink RL 46 yX7_group, .instanceMethod yX7_group, .selects RX7 yX7_group yX7_group, .code yX7_group cX7_group 4 (some .int), .methodLink RL 47 yX6_setOf, .instanceMethod yX6_setOf, .selects RX6 yX6_setOf yX6_setOf]
def pw_16 : List Cond := [.code yX6_setOf cX6_setOf 3 (some .int), .methodLink RL 50 yX7_setOf, .instanceMethod yX7_setOf, .selects RX7 yX7_setOf yX7_setOf, .code yX7_setOf cX7_setOf 7 (some .int), .methodLink RL 51 yX6_fault, .instanceMethod yX6_fault, .selects RX6 yX6_fault yX6_fault, .code yX6_fault cX6_fault 5 (some .int), .methodLink RL 55 yX7_fault, .instanceMethod yX7_fault, .selects RX7 yX7_fault yX7_fault, .code yX7_fault cX7_fault 5 (some .int), .methodLink RL 56 yX6_level, .instanceMethod yX6_level, .selects RX6 yX6_level yX6_level]
def pw_17 : List Cond := [.code yX6_level cX6_level 5 (some .int), .methodLink RL 59 yX7_level, .instanceMethod yX7_level, .selects RX7 yX7_level yX7_level, .code yX7_level cX7_level 5 (some .int), .methodLink RL 60 yX6_claim, .instanceMethod yX6_claim, .selects RX6 yX6_claim yX6_claim, .code yX6_claim cX6_claim 6 (some .int), .methodLink RL 63 yX7_claim, .instanceMethod yX7_claim, .selects RX7 yX7_claim yX7_claim, .code yX7_claim cX7_claim 7 (some .int), .methodLink RL 64 yX6_size, .instanceMethod yX6_size, .selects RX6 yX6_size yX6_size]
def pw_18 : List Cond := [.code yX6_size cX6_size 3 (some .int), .methodLink RL 67 yX7_size, .instanceMethod yX7_size, .selects RX7 yX7_size yX7_size, .code yX7_size cX7_size 3 (some .int), .methodLink RL 68 yX6_byteOf, .instanceMethod yX6_byteOf, .selects RX6 yX6_byteOf yX6_byteOf, .code yX6_byteOf cX6_byteOf 5 (some .int), .methodLink RL 71 yX7_byteOf, .instanceMethod yX7_byteOf, .selects RX7 yX7_byteOf yX7_byteOf, .code yX7_byteOf cX7_byteOf 4 (some .int), .methodLink RL 72 yX6_answer, .instanceMethod yX6_answer, .selects RX6 yX6_answer yX6_answer]
def pw_19 : List Cond := [.code yX6_answer cX6_answer 2 (some .int), .methodLink RL 75 yX7_answer, .instanceMethod yX7_answer, .selects RX7 yX7_answer yX7_answer, .code yX7_answer cX7_answer 2 (some .int), .methodLink RL 76 yX6_answered, .instanceMethod yX6_answered, .selects RX6 yX6_answered yX6_answered, .code yX6_answered cX6_answered 3 (some .int), .methodLink RL 79 yX7_answered, .instanceMethod yX7_answered, .selects RX7 yX7_answered yX7_answered, .code yX7_answered cX7_answered 2 (some .int), .methodLink RL 80 yX6_turn, .instanceMethod yX6_turn, .selects RX6 yX6_turn yX6_turn]
def pw_20 : List Cond := [.code yX6_turn cX6_turn 2 (some .int), .methodLink RL 83 yX7_turn, .instanceMethod yX7_turn, .selects RX7 yX7_turn yX7_turn, .code yX7_turn cX7_turn 2 (some .int)]
def pwAll : List Cond := pw_0 ++ (pw_1 ++ (pw_2 ++ (pw_3 ++ (pw_4 ++ (pw_5 ++ (pw_6 ++ (pw_7 ++ (pw_8 ++ (pw_9 ++ (pw_10 ++ (pw_11 ++ (pw_12 ++ (pw_13 ++ (pw_14 ++ (pw_15 ++ (pw_16 ++ (pw_17 ++ (pw_18 ++ (pw_19 ++ (pw_20 ++ (wsX00 ++ (wsX10 ++ (wsX20 ++ (wsX30 ++ (wsX40 ++ (wsX50 ++ (wsX60 ++ (wsX70))))))))))))))))))))))))))))
theorem sub_0 : ∀ w ∈ pw_0, w ∈ pwAll := fun _ h => List.mem_append_left _ (h)
theorem sub_1 : ∀ w ∈ pw_1, w ∈ pwAll := fun _ h => List.mem_append_right _ (List.mem_append_left _ (h))
theorem sub_2 : ∀ w ∈ pw_2, w ∈ pwAll := fun _ h => List.mem_append_right _ (List.mem_append_right _ (List.mem_append_left _ (h)))
theorem sub_3 : ∀ w ∈ pw_3, w ∈ pwAll := fun _ h => List.mem_append_right _ (List.mem_append_right _ (List.mem_append_right _ (List.mem_append_left _ (h))))
theorem sub_4 : ∀ w ∈ pw_4, w ∈ pwAll := fun _ h => List.mem_append_right _ (List.mem_append_right _ (List.mem_append_right _ (List.mem_append_right _ (List.mem_append_left _ (h)))))
theorem sub_5 : ∀ w ∈ pw_5, w ∈ pwAll := fun _ h => List.mem_append_right _ (List.mem_append_right _ (List.mem_append_right _ (List.mem_append_right _ (List.mem_append_right _ (List.mem_append_left _ (h))))))
theorem sub_6 : ∀ w ∈ pw_6, w ∈ pwAll := fun _ h => List.mem_append_right _ (List.mem_append_right _ (List.mem_append_right _ (List.mem_append_right _ (List.mem_append_right _ (List.mem_append_right _ (List.mem_append_left _ (h)))))))
theorem sub_7 : ∀ w ∈ pw_7, w ∈ pwAll := fun _ h => List.mem_append_right _ (List.mem_append_right _ (List.mem_append_right _ (List.mem_append_right _ (List.mem_append_right _ (List.mem_append_right _ (List.mem_append_right _ (List.mem_append_left _ (h))))))))
theorem sub_8 : ∀ w ∈ pw_8, w ∈ pwAll := fun _ h => List.mem_append_right _ (List.mem_append_right _ (List.mem_append_right _ (List.mem_append_right _ (List.mem_append_right _ (List.mem_append_right _ (List.mem_append_right _ (List.mem_append_right _ (List.mem_append_left _ (h)))))))))
theorem sub_9 : ∀ w ∈ pw_9, w ∈ pwAll := fun _ h => List.mem_append_right _ (List.mem_append_right _ (List.mem_append_right _ (List.mem_append_right _ (List.mem_append_right _ (List.mem_append_right _ (List.mem_append_right _ (List.mem_append_right _ (List.mem_append_right _ (List.mem_append_left _ (h))))))))))
theorem sub_10 : ∀ w ∈ pw_10, w ∈ pwAll := fun _ h => List.mem_append_right _ (List.mem_append_right _ (List.mem_append_right _ (List.mem_append_right _ (List.mem_append_right _ (List.mem_append_right _ (List.mem_append_right _ (List.mem_append_right _ (List.mem_append_right _ (List.mem_append_right _ (List.mem_append_left _ (h)))))))))))
theorem sub_11 : ∀ w ∈ pw_11, w ∈ pwAll := fun _ h => List.mem_append_right _ (List.mem_append_right _ (List.mem_append_right _ (List.mem_append_right _ (List.mem_append_right _ (List.mem_append_right _ (List.mem_append_right _ (List.mem_append_right _ (List.mem_append_right _ (List.mem_append_right _ (List.mem_append_right _ (List.mem_append_left _ (h))))))))))))
theorem sub_12 : ∀ w ∈ pw_12, w ∈ pwAll := fun _ h => List.mem_append_right _ (List.mem_append_right _ (List.mem_append_right _ (List.mem_append_right _ (List.mem_append_right _ (List.mem_append_right _ (List.mem_append_right _ (List.mem_append_right _ (List.mem_append_right _ (List.mem_append_right _ (List.mem_append_right _ (List.mem_append_right _ (List.mem_append_left _ (h)))))))))))))
theorem sub_13 : ∀ w ∈ pw_13, w ∈ pwAll := fun _ h => List.mem_append_right _ (List.mem_append_right _ (List.mem_append_right _ (List.mem_append_right _ (List.mem_append_right _ (List.mem_append_right _ (List.mem_append_right _ (List.mem_append_right _ (List.mem_append_right _ (List.mem_append_right _ (List.mem_append_right _ (List.mem_append_right _ (List.mem_append_right _ (List.mem_append_left _ (h))))))))))))))
theorem sub_14 : ∀ w ∈ pw_14, w ∈ pwAll := fun _ h => List.mem_append_right _ (List.mem_append_right _ (List.mem_append_right _ (List.mem_append_right _ (List.mem_append_right _ (List.mem_append_right _ (List.mem_append_right _ (List.mem_append_right _ (List.mem_append_right _ (List.mem_append_right _ (List.mem_append_right _ (List.mem_append_right _ (List.mem_append_right _ (List.mem_append_right _ (List.mem_append_left _ (h)))))))))))))))
theorem sub_15 : ∀ w ∈ pw_15, w ∈ pwAll := fun _ h => List.mem_append_right _ (List.mem_append_right _ (List.mem_append_right _ (List.mem_append_right _ (List.mem_append_right _ (List.mem_append_right _ (List.mem_append_right _ (List.mem_append_right _ (List.mem_append_right _ (List.mem_append_right _ (List.mem_append_right _ (List.mem_append_right _ (List.mem_append_right _ (List.mem_append_right _ (List.mem_append_right _ (List.mem_append_left _ (h))))))))))))))))
theorem sub_16 : ∀ w ∈ pw_16, w ∈ pwAll := fun _ h => List.mem_append_right _ (List.mem_append_right _ (List.mem_append_right _ (List.mem_append_right _ (List.mem_append_right _ (List.mem_append_right _ (List.mem_append_right _ (List.mem_append_right _ (List.mem_append_right _ (List.mem_append_right _ (List.mem_append_right _ (List.mem_append_right _ (List.mem_append_right _ (List.mem_append_right _ (List.mem_append_right _ (List.mem_append_right _ (List.mem_append_left _ (h)))))))))))))))))
theorem sub_17 : ∀ w ∈ pw_17, w ∈ pwAll := fun _ h => List.mem_append_right _ (List.mem_append_right _ (List.mem_append_right _ (List.mem_append_right _ (List.mem_append_right _ (List.mem_append_right _ (List.mem_append_right _ (List.mem_append_right _ (List.mem_append_right _ (List.mem_append_right _ (List.mem_append_right _ (List.mem_append_right _ (List.mem_append_right _ (List.mem_append_right _ (List.mem_append_right _ (List.mem_append_right _ (List.mem_append_right _ (List.mem_append_left _ (h))))))))))))))))))
theorem sub_18 : ∀ w ∈ pw_18, w ∈ pwAll := fun _ h => List.mem_append_right _ (List.mem_append_right _ (List.mem_append_right _ (List.mem_append_right _ (List.mem_append_right _ (List.mem_append_right _ (List.mem_append_right _ (List.mem_append_right _ (List.mem_append_right _ (List.mem_append_right _ (List.mem_append_right _ (List.mem_append_right _ (List.mem_append_right _ (List.mem_append_right _ (List.mem_append_right _ (List.mem_append_right _ (List.mem_append_right _ (List.mem_append_right _ (List.mem_append_left _ (h)))))))))))))))))))
theorem sub_19 : ∀ w ∈ pw_19, w ∈ pwAll := fun _ h => List.mem_append_right _ (List.mem_append_right _ (List.mem_append_right _ (List.mem_append_right _ (List.mem_append_right _ (List.mem_append_right _ (List.mem_append_right _ (List.mem_append_right _ (List.mem_append_right _ (List.mem_append_right _ (List.mem_append_right _ (List.mem_append_right _ (List.mem_append_right _ (List.mem_append_right _ (List.mem_append_right _ (List.mem_append_right _ (List.mem_append_right _ (List.mem_append_right _ (List.mem_append_right _ (List.mem_append_left _ (h))))))))))))))))))))
theorem sub_20 : ∀ w ∈ pw_20, w ∈ pwAll := fun _ h => List.mem_append_right _ (List.mem_append_right _ (List.mem_append_right _ (List.mem_append_right _ (List.mem_append_right _ (List.mem_append_right _ (List.mem_append_right _ (List.mem_append_right _ (List.mem_append_right _ (List.mem_append_right _ (List.mem_append_right _ (List.mem_append_right _ (List.mem_append_right _ (List.mem_append_right _ (List.mem_append_right _ (List.mem_append_right _ (List.mem_append_right _ (List.mem_append_right _ (List.mem_append_right _ (List.mem_append_right _ (List.mem_append_left _ (h)))))))))))))))))))))
theorem inAll_0 : ∀ w ∈ wsX00, w ∈ pwAll := fun _ h => List.mem_append_right _ (List.mem_append_right _ (List.mem_append_right _ (List.mem_append_right _ (List.mem_append_right _ (List.mem_append_right _ (List.mem_append_right _ (List.mem_append_right _ (List.mem_append_right _ (List.mem_append_right _ (List.mem_append_right _ (List.mem_append_right _ (List.mem_append_right _ (List.mem_append_right _ (List.mem_append_right _ (List.mem_append_right _ (List.mem_append_right _ (List.mem_append_right _ (List.mem_append_right _ (List.mem_append_right _ (List.mem_append_right _ (List.mem_append_left _ (h))))))))))))))))))))))
theorem inAll_1 : ∀ w ∈ wsX10, w ∈ pwAll := fun _ h => List.mem_append_right _ (List.mem_append_right _ (List.mem_append_right _ (List.mem_append_right _ (List.mem_append_right _ (List.mem_append_right _ (List.mem_append_right _ (List.mem_append_right _ (List.mem_append_right _ (List.mem_append_right _ (List.mem_append_right _ (List.mem_append_right _ (List.mem_append_right _ (List.mem_append_right _ (List.mem_append_right _ (List.mem_append_right _ (List.mem_append_right _ (List.mem_append_right _ (List.mem_append_right _ (List.mem_append_right _ (List.mem_append_right _ (List.mem_append_right _ (List.mem_append_left _ (h)))))))))))))))))))))))
theorem inAll_2 : ∀ w ∈ wsX20, w ∈ pwAll := fun _ h => List.mem_append_right _ (List.mem_append_right _ (List.mem_append_right _ (List.mem_append_right _ (List.mem_append_right _ (List.mem_append_right _ (List.mem_append_right _ (List.mem_append_right _ (List.mem_append_right _ (List.mem_append_right _ (List.mem_append_right _ (List.mem_append_right _ (List.mem_append_right _ (List.mem_append_right _ (List.mem_append_right _ (List.mem_append_right _ (List.mem_append_right _ (List.mem_append_right _ (List.mem_append_right _ (List.mem_append_right _ (List.mem_append_right _ (List.mem_append_right _ (List.mem_append_right _ (List.mem_append_left _ (h))))))))))))))))))))))))
theorem inAll_3 : ∀ w ∈ wsX30, w ∈ pwAll := fun _ h => List.mem_append_right _ (List.mem_append_right _ (List.mem_append_right _ (List.mem_append_right _ (List.mem_append_right _ (List.mem_append_right _ (List.mem_append_right _ (List.mem_append_right _ (List.mem_append_right _ (List.mem_append_right _ (List.mem_append_right _ (List.mem_append_right _ (List.mem_append_right _ (List.mem_append_right _ (List.mem_append_right _ (List.mem_append_right _ (List.mem_append_right _ (List.mem_append_right _ (List.mem_append_right _ (List.mem_append_right _ (List.mem_append_right _ (List.mem_append_right _ (List.mem_append_right _ (List.mem_append_right _ (List.mem_append_left _ (h)))))))))))))))))))))))))
theorem inAll_4 : ∀ w ∈ wsX40, w ∈ pwAll := fun _ h => List.mem_append_right _ (List.mem_append_right _ (List.mem_append_right _ (List.mem_append_right _ (List.mem_append_right _ (List.mem_append_right _ (List.mem_append_right _ (List.mem_append_right _ (List.mem_append_right _ (List.mem_append_right _ (List.mem_append_right _ (List.mem_append_right _ (List.mem_append_right _ (List.mem_append_right _ (List.mem_append_right _ (List.mem_append_right _ (List.mem_append_right _ (List.mem_append_right _ (List.mem_append_right _ (List.mem_append_right _ (List.mem_append_right _ (List.mem_append_right _ (List.mem_append_right _ (List.mem_append_right _ (List.mem_append_right _ (List.mem_append_left _ (h))))))))))))))))))))))))))
theorem inAll_5 : ∀ w ∈ wsX50, w ∈ pwAll := fun _ h => List.mem_append_right _ (List.mem_append_right _ (List.mem_append_right _ (List.mem_append_right _ (List.mem_append_right _ (List.mem_append_right _ (List.mem_append_right _ (List.mem_append_right _ (List.mem_append_right _ (List.mem_append_right _ (List.mem_append_right _ (List.mem_append_right _ (List.mem_append_right _ (List.mem_append_right _ (List.mem_append_right _ (List.mem_append_right _ (List.mem_append_right _ (List.mem_append_right _ (List.mem_append_right _ (List.mem_append_right _ (List.mem_append_right _ (List.mem_append_right _ (List.mem_append_right _ (List.mem_append_right _ (List.mem_append_right _ (List.mem_append_right _ (List.mem_append_left _ (h)))))))))))))))))))))))))))
theorem inAll_6 : ∀ w ∈ wsX60, w ∈ pwAll := fun _ h => List.mem_append_right _ (List.mem_append_right _ (List.mem_append_right _ (List.mem_append_right _ (List.mem_append_right _ (List.mem_append_right _ (List.mem_append_right _ (List.mem_append_right _ (List.mem_append_right _ (List.mem_append_right _ (List.mem_append_right _ (List.mem_append_right _ (List.mem_append_right _ (List.mem_append_right _ (List.mem_append_right _ (List.mem_append_right _ (List.mem_append_right _ (List.mem_append_right _ (List.mem_append_right _ (List.mem_append_right _ (List.mem_append_right _ (List.mem_append_right _ (List.mem_append_right _ (List.mem_append_right _ (List.mem_append_right _ (List.mem_append_right _ (List.mem_append_right _ (List.mem_append_left _ (h))))))))))))))))))))))))))))
theorem inAll_7 : ∀ w ∈ wsX70, w ∈ pwAll := fun _ h => List.mem_append_right _ (List.mem_append_right _ (List.mem_append_right _ (List.mem_append_right _ (List.mem_append_right _ (List.mem_append_right _ (List.mem_append_right _ (List.mem_append_right _ (List.mem_append_right _ (List.mem_append_right _ (List.mem_append_right _ (List.mem_append_right _ (List.mem_append_right _ (List.mem_append_right _ (List.mem_append_right _ (List.mem_append_right _ (List.mem_append_right _ (List.mem_append_right _ (List.mem_append_right _ (List.mem_append_right _ (List.mem_append_right _ (List.mem_append_right _ (List.mem_append_right _ (List.mem_append_right _ (List.mem_append_right _ (List.mem_append_right _ (List.mem_append_right _ (List.mem_append_right _ (h))))))))))))))))))))))))))))
theorem k_0 : Cond.methodLink RX0 3 objectInit ∈ pwAll := sub_0 _ (List.mem_of_getElem? (i := 0) rfl)
theorem k_1 : Cond.instanceMethod objectInit ∈ pwAll := sub_0 _ (List.mem_of_getElem? (i := 1) rfl)
theorem k_2 : Cond.code objectInit ⟨#[0xb1]⟩ 1 none ∈ pwAll := sub_0 _ (List.mem_of_getElem? (i := 2) rfl)
theorem k_3 : Cond.methodLink RX0 9 Lib.Math.max.name ∈ pwAll := sub_0 _ (List.mem_of_getElem? (i := 3) rfl)
theorem k_4 : Cond.static Lib.Math.max.name ∈ pwAll := sub_0 _ (List.mem_of_getElem? (i := 4) rfl)
theorem k_5 : Cond.initialized "java/lang/Math" ∈ pwAll := sub_0 _ (List.mem_of_getElem? (i := 5) rfl)
theorem k_6 : Cond.code Lib.Math.max.name Lib.Math.max.code 2 (some .int) ∈ pwAll := sub_0 _ (List.mem_of_getElem? (i := 6) rfl)
theorem k_7 : Cond.arrayClass .byte ∈ pwAll := sub_0 _ (List.mem_of_getElem? (i := 7) rfl)
theorem k_8 : Cond.fieldLink RX0 15 "LoopEnvelopes$Bytes" "cells" "[B" ∈ pwAll := sub_0 _ (List.mem_of_getElem? (i := 8) rfl)
theorem k_9 : Cond.fieldLink RX0 21 "LoopEnvelopes$Bytes" "used" "I" ∈ pwAll := sub_0 _ (List.mem_of_getElem? (i := 9) rfl)
theorem k_10 : Cond.methodLink RX4 3 objectInit ∈ pwAll := sub_0 _ (List.mem_of_getElem? (i := 10) rfl)
theorem k_11 : Cond.fieldLink RX4 9 "LoopEnvelopes$Table" "rows" "I" ∈ pwAll := sub_0 _ (List.mem_of_getElem? (i := 11) rfl)
theorem k_12 : Cond.fieldLink RX4 15 "LoopEnvelopes$Table" "columns" "I" ∈ pwAll := sub_0 _ (List.mem_of_getElem? (i := 12) rfl)
theorem k_13 : Cond.methodLink RX4 18 Lib.Math.max.name ∈ pwAll := sub_0 _ (List.mem_of_getElem? (i := 13) rfl)
theorem k_14 : Cond.arrayClass .int ∈ pwAll := sub_0 _ (List.mem_of_getElem? (i := 14) rfl)
theorem k_15 : Cond.fieldLink RX4 24 "LoopEnvelopes$Table" "cells" "[I" ∈ pwAll := sub_0 _ (List.mem_of_getElem? (i := 15) rfl)
theorem k_16 : Cond.methodLink RX3 3 objectInit ∈ pwAll := sub_1 _ (List.mem_of_getElem? (i := 0) rfl)
theorem k_17 : Cond.classLink RX3 9 RX0 ∈ pwAll := sub_1 _ (List.mem_of_getElem? (i := 1) rfl)
theorem k_18 : Cond.instantiable RX0 2 ∈ pwAll := sub_1 _ (List.mem_of_getElem? (i := 2) rfl)
theorem k_19 : Cond.initialized RX0 ∈ pwAll := sub_1 _ (List.mem_of_getElem? (i := 3) rfl)
theorem k_20 : Cond.code yX0_init cX0_init 2 none ∈ pwAll := sub_1 _ (List.mem_of_getElem? (i := 4) rfl)
theorem k_21 : Cond.methodLink RX3 11 yX0_init ∈ pwAll := sub_1 _ (List.mem_of_getElem? (i := 5) rfl)
theorem k_22 : Cond.instanceMethod yX0_init ∈ pwAll := sub_1 _ (List.mem_of_getElem? (i := 6) rfl)
theorem k_23 : Cond.fieldLink RX3 14 "LoopEnvelopes$Segments" "bytes" "LLoopEnvelopes$Bytes;" ∈ pwAll := sub_1 _ (List.mem_of_getElem? (i := 7) rfl)
theorem k_24 : Cond.classLink RX3 20 RX4 ∈ pwAll := sub_1 _ (List.mem_of_getElem? (i := 8) rfl)
theorem k_25 : Cond.instantiable RX4 3 ∈ pwAll := sub_1 _ (List.mem_of_getElem? (i := 9) rfl)
theorem k_26 : Cond.initialized RX4 ∈ pwAll := sub_1 _ (List.mem_of_getElem? (i := 10) rfl)
theorem k_27 : Cond.code yX4_init cX4_init 3 none ∈ pwAll := sub_1 _ (List.mem_of_getElem? (i := 11) rfl)
theorem k_28 : Cond.methodLink RX3 22 yX4_init ∈ pwAll := sub_1 _ (List.mem_of_getElem? (i := 12) rfl)
theorem k_29 : Cond.instanceMethod yX4_init ∈ pwAll := sub_1 _ (List.mem_of_getElem? (i := 13) rfl)
theorem k_30 : Cond.fieldLink RX3 25 "LoopEnvelopes$Segments" "begins" "LLoopEnvelopes$Table;" ∈ pwAll := sub_1 _ (List.mem_of_getElem? (i := 14) rfl)
theorem k_31 : Cond.fieldLink RX3 29 "LoopEnvelopes$Segments" "names" "LLoopEnvelopes$Table;" ∈ pwAll := sub_1 _ (List.mem_of_getElem? (i := 15) rfl)
theorem k_32 : Cond.fieldLink RX3 32 "LoopEnvelopes$Segments" "elements" "LLoopEnvelopes$Table;" ∈ pwAll := sub_2 _ (List.mem_of_getElem? (i := 0) rfl)
theorem k_33 : Cond.fieldLink RX3 35 "LoopEnvelopes$Segments" "held" "I" ∈ pwAll := sub_2 _ (List.mem_of_getElem? (i := 1) rfl)
theorem k_34 : Cond.methodLink RX1 3 objectInit ∈ pwAll := sub_2 _ (List.mem_of_getElem? (i := 2) rfl)
theorem k_35 : Cond.fieldLink RX1 9 "LoopEnvelopes$Frames" "segments" "LLoopEnvelopes$Segments;" ∈ pwAll := sub_2 _ (List.mem_of_getElem? (i := 3) rfl)
theorem k_36 : Cond.classLink RX1 15 RX4 ∈ pwAll := sub_2 _ (List.mem_of_getElem? (i := 4) rfl)
theorem k_37 : Cond.methodLink RX1 17 yX4_init ∈ pwAll := sub_2 _ (List.mem_of_getElem? (i := 5) rfl)
theorem k_38 : Cond.fieldLink RX1 20 "LoopEnvelopes$Frames" "groups" "LLoopEnvelopes$Table;" ∈ pwAll := sub_2 _ (List.mem_of_getElem? (i := 6) rfl)
theorem k_39 : Cond.fieldLink RX1 24 "LoopEnvelopes$Frames" "sets" "LLoopEnvelopes$Table;" ∈ pwAll := sub_2 _ (List.mem_of_getElem? (i := 7) rfl)
theorem k_40 : Cond.fieldLink RX1 27 "LoopEnvelopes$Frames" "groupsHeld" "I" ∈ pwAll := sub_2 _ (List.mem_of_getElem? (i := 8) rfl)
theorem k_41 : Cond.fieldLink RX1 31 "LoopEnvelopes$Frames" "setsHeld" "I" ∈ pwAll := sub_2 _ (List.mem_of_getElem? (i := 9) rfl)
theorem k_42 : Cond.fieldLink RX1 34 "LoopEnvelopes$Frames" "stage" "I" ∈ pwAll := sub_2 _ (List.mem_of_getElem? (i := 10) rfl)
theorem k_43 : Cond.methodLink RX2 3 objectInit ∈ pwAll := sub_2 _ (List.mem_of_getElem? (i := 11) rfl)
theorem k_44 : Cond.fieldLink RX2 9 "LoopEnvelopes$Judge" "segments" "LLoopEnvelopes$Segments;" ∈ pwAll := sub_2 _ (List.mem_of_getElem? (i := 12) rfl)
theorem k_45 : Cond.fieldLink RX2 15 "LoopEnvelopes$Judge" "frames" "LLoopEnvelopes$Frames;" ∈ pwAll := sub_2 _ (List.mem_of_getElem? (i := 13) rfl)
theorem k_46 : Cond.classLink RX2 19 RX4 ∈ pwAll := sub_2 _ (List.mem_of_getElem? (i := 14) rfl)
theorem k_47 : Cond.methodLink RX2 21 yX4_init ∈ pwAll := sub_2 _ (List.mem_of_getElem? (i := 15) rfl)
theorem k_48 : Cond.fieldLink RX2 24 "LoopEnvelopes$Judge" "marks" "LLoopEnvelopes$Table;" ∈ pwAll := sub_3 _ (List.mem_of_getElem? (i := 0) rfl)
theorem k_49 : Cond.fieldLink RX2 28 "LoopEnvelopes$Judge" "first" "I" ∈ pwAll := sub_3 _ (List.mem_of_getElem? (i := 1) rfl)
theorem k_50 : Cond.fieldLink RX2 32 "LoopEnvelopes$Judge" "end" "I" ∈ pwAll := sub_3 _ (List.mem_of_getElem? (i := 2) rfl)
theorem k_51 : Cond.methodLink RX5 3 objectInit ∈ pwAll := sub_3 _ (List.mem_of_getElem? (i := 3) rfl)
theorem k_52 : Cond.fieldLink RX5 9 "LoopEnvelopes$Writer" "segments" "LLoopEnvelopes$Segments;" ∈ pwAll := sub_3 _ (List.mem_of_getElem? (i := 4) rfl)
theorem k_53 : Cond.classLink RX5 15 RX0 ∈ pwAll := sub_3 _ (List.mem_of_getElem? (i := 5) rfl)
theorem k_54 : Cond.methodLink RX5 17 yX0_init ∈ pwAll := sub_3 _ (List.mem_of_getElem? (i := 6) rfl)
theorem k_55 : Cond.fieldLink RX5 20 "LoopEnvelopes$Writer" "bytes" "LLoopEnvelopes$Bytes;" ∈ pwAll := sub_3 _ (List.mem_of_getElem? (i := 7) rfl)
theorem k_56 : Cond.fieldLink RX5 24 "LoopEnvelopes$Writer" "over" "Z" ∈ pwAll := sub_3 _ (List.mem_of_getElem? (i := 8) rfl)
theorem k_57 : Cond.methodLink RX6 3 objectInit ∈ pwAll := sub_3 _ (List.mem_of_getElem? (i := 9) rfl)
theorem k_58 : Cond.classLink RX6 9 RX0 ∈ pwAll := sub_3 _ (List.mem_of_getElem? (i := 10) rfl)
theorem k_59 : Cond.methodLink RX6 11 yX0_init ∈ pwAll := sub_3 _ (List.mem_of_getElem? (i := 11) rfl)
theorem k_60 : Cond.fieldLink RX6 14 "LoopEnvelopes" "text" "LLoopEnvelopes$Bytes;" ∈ pwAll := sub_3 _ (List.mem_of_getElem? (i := 12) rfl)
theorem k_61 : Cond.classLink RX6 18 RX3 ∈ pwAll := sub_3 _ (List.mem_of_getElem? (i := 13) rfl)
theorem k_62 : Cond.instantiable RX3 5 ∈ pwAll := sub_3 _ (List.mem_of_getElem? (i := 14) rfl)
theorem k_63 : Cond.initialized RX3 ∈ pwAll := sub_3 _ (List.mem_of_getElem? (i := 15) rfl)
theorem k_64 : Cond.code yX3_init cX3_init 1 none ∈ pwAll := sub_4 _ (List.mem_of_getElem? (i := 0) rfl)
theorem k_65 : Cond.methodLink RX6 20 yX3_init ∈ pwAll := sub_4 _ (List.mem_of_getElem? (i := 1) rfl)
theorem k_66 : Cond.instanceMethod yX3_init ∈ pwAll := sub_4 _ (List.mem_of_getElem? (i := 2) rfl)
theorem k_67 : Cond.fieldLink RX6 21 "LoopEnvelopes" "segments" "LLoopEnvelopes$Segments;" ∈ pwAll := sub_4 _ (List.mem_of_getElem? (i := 3) rfl)
theorem k_68 : Cond.classLink RX6 25 RX1 ∈ pwAll := sub_4 _ (List.mem_of_getElem? (i := 4) rfl)
theorem k_69 : Cond.instantiable RX1 6 ∈ pwAll := sub_4 _ (List.mem_of_getElem? (i := 5) rfl)
theorem k_70 : Cond.initialized RX1 ∈ pwAll := sub_4 _ (List.mem_of_getElem? (i := 6) rfl)
theorem k_71 : Cond.code yX1_init cX1_init 2 none ∈ pwAll := sub_4 _ (List.mem_of_getElem? (i := 7) rfl)
theorem k_72 : Cond.methodLink RX6 27 yX1_init ∈ pwAll := sub_4 _ (List.mem_of_getElem? (i := 8) rfl)
theorem k_73 : Cond.instanceMethod yX1_init ∈ pwAll := sub_4 _ (List.mem_of_getElem? (i := 9) rfl)
theorem k_74 : Cond.fieldLink RX6 30 "LoopEnvelopes" "frames" "LLoopEnvelopes$Frames;" ∈ pwAll := sub_4 _ (List.mem_of_getElem? (i := 10) rfl)
theorem k_75 : Cond.classLink RX6 34 RX2 ∈ pwAll := sub_4 _ (List.mem_of_getElem? (i := 11) rfl)
theorem k_76 : Cond.instantiable RX2 5 ∈ pwAll := sub_4 _ (List.mem_of_getElem? (i := 12) rfl)
theorem k_77 : Cond.initialized RX2 ∈ pwAll := sub_4 _ (List.mem_of_getElem? (i := 13) rfl)
theorem k_78 : Cond.code yX2_init cX2_init 3 none ∈ pwAll := sub_4 _ (List.mem_of_getElem? (i := 14) rfl)
theorem k_79 : Cond.methodLink RX6 36 yX2_init ∈ pwAll := sub_4 _ (List.mem_of_getElem? (i := 15) rfl)
theorem k_80 : Cond.instanceMethod yX2_init ∈ pwAll := sub_5 _ (List.mem_of_getElem? (i := 0) rfl)
theorem k_81 : Cond.fieldLink RX6 39 "LoopEnvelopes" "judge" "LLoopEnvelopes$Judge;" ∈ pwAll := sub_5 _ (List.mem_of_getElem? (i := 1) rfl)
theorem k_82 : Cond.classLink RX6 43 RX5 ∈ pwAll := sub_5 _ (List.mem_of_getElem? (i := 2) rfl)
theorem k_83 : Cond.instantiable RX5 3 ∈ pwAll := sub_5 _ (List.mem_of_getElem? (i := 3) rfl)
theorem k_84 : Cond.initialized RX5 ∈ pwAll := sub_5 _ (List.mem_of_getElem? (i := 4) rfl)
theorem k_85 : Cond.code yX5_init cX5_init 2 none ∈ pwAll := sub_5 _ (List.mem_of_getElem? (i := 5) rfl)
theorem k_86 : Cond.methodLink RX6 45 yX5_init ∈ pwAll := sub_5 _ (List.mem_of_getElem? (i := 6) rfl)
theorem k_87 : Cond.instanceMethod yX5_init ∈ pwAll := sub_5 _ (List.mem_of_getElem? (i := 7) rfl)
theorem k_88 : Cond.fieldLink RX6 46 "LoopEnvelopes" "writer" "LLoopEnvelopes$Writer;" ∈ pwAll := sub_5 _ (List.mem_of_getElem? (i := 8) rfl)
theorem k_89 : Cond.fieldLink RX6 50 "LoopEnvelopes" "place" "I" ∈ pwAll := sub_5 _ (List.mem_of_getElem? (i := 9) rfl)
theorem k_90 : Cond.fieldLink RX6 54 "LoopEnvelopes" "taken" "Z" ∈ pwAll := sub_5 _ (List.mem_of_getElem? (i := 10) rfl)
theorem k_91 : Cond.methodLink RX0 25 Lib.Math.min.name ∈ pwAll := sub_5 _ (List.mem_of_getElem? (i := 11) rfl)
theorem k_92 : Cond.static Lib.Math.min.name ∈ pwAll := sub_5 _ (List.mem_of_getElem? (i := 12) rfl)
theorem k_93 : Cond.code Lib.Math.min.name Lib.Math.min.code 2 (some .int) ∈ pwAll := sub_5 _ (List.mem_of_getElem? (i := 13) rfl)
theorem k_94 : Cond.methodLink RX3 39 yX0_become ∈ pwAll := sub_5 _ (List.mem_of_getElem? (i := 14) rfl)
theorem k_95 : Cond.instanceMethod yX0_become ∈ pwAll := sub_5 _ (List.mem_of_getElem? (i := 15) rfl)
theorem k_96 : Cond.selects RX0 yX0_become yX0_become ∈ pwAll := sub_6 _ (List.mem_of_getElem? (i := 0) rfl)
theorem k_97 : Cond.code yX0_become cX0_become 3 none ∈ pwAll := sub_6 _ (List.mem_of_getElem? (i := 1) rfl)
theorem k_98 : Cond.methodLink RX3 47 yX0_at ∈ pwAll := sub_6 _ (List.mem_of_getElem? (i := 2) rfl)
theorem k_99 : Cond.instanceMethod yX0_at ∈ pwAll := sub_6 _ (List.mem_of_getElem? (i := 3) rfl)
theorem k_100 : Cond.selects RX0 yX0_at yX0_at ∈ pwAll := sub_6 _ (List.mem_of_getElem? (i := 4) rfl)
theorem k_101 : Cond.code yX0_at cX0_at 2 (some .int) ∈ pwAll := sub_6 _ (List.mem_of_getElem? (i := 5) rfl)
theorem k_102 : Cond.methodLink RX3 55 yX3_splitter ∈ pwAll := sub_6 _ (List.mem_of_getElem? (i := 6) rfl)
theorem k_103 : Cond.instanceMethod yX3_splitter ∈ pwAll := sub_6 _ (List.mem_of_getElem? (i := 7) rfl)
theorem k_104 : Cond.selects RX3 yX3_splitter yX3_splitter ∈ pwAll := sub_6 _ (List.mem_of_getElem? (i := 8) rfl)
theorem k_105 : Cond.code yX3_splitter cX3_splitter 1 (some .int) ∈ pwAll := sub_6 _ (List.mem_of_getElem? (i := 9) rfl)
theorem k_106 : Cond.methodLink RX3 58 yX3_closer ∈ pwAll := sub_6 _ (List.mem_of_getElem? (i := 10) rfl)
theorem k_107 : Cond.instanceMethod yX3_closer ∈ pwAll := sub_6 _ (List.mem_of_getElem? (i := 11) rfl)
theorem k_108 : Cond.selects RX3 yX3_closer yX3_closer ∈ pwAll := sub_6 _ (List.mem_of_getElem? (i := 12) rfl)
theorem k_109 : Cond.code yX3_closer cX3_closer 1 (some .int) ∈ pwAll := sub_6 _ (List.mem_of_getElem? (i := 13) rfl)
theorem k_110 : Cond.methodLink RX3 43 yX0_length ∈ pwAll := sub_6 _ (List.mem_of_getElem? (i := 14) rfl)
theorem k_111 : Cond.instanceMethod yX0_length ∈ pwAll := sub_6 _ (List.mem_of_getElem? (i := 15) rfl)
theorem k_112 : Cond.selects RX0 yX0_length yX0_length ∈ pwAll := sub_7 _ (List.mem_of_getElem? (i := 0) rfl)
theorem k_113 : Cond.code yX0_length cX0_length 1 (some .int) ∈ pwAll := sub_7 _ (List.mem_of_getElem? (i := 1) rfl)
theorem k_114 : Cond.methodLink RX5 32 yX0_at ∈ pwAll := sub_7 _ (List.mem_of_getElem? (i := 2) rfl)
theorem k_115 : Cond.methodLink RX5 28 yX0_length ∈ pwAll := sub_7 _ (List.mem_of_getElem? (i := 3) rfl)
theorem k_116 : Cond.methodLink RX6 58 yX0_length ∈ pwAll := sub_7 _ (List.mem_of_getElem? (i := 4) rfl)
theorem k_117 : Cond.methodLink RX6 76 yX0_shorten ∈ pwAll := sub_7 _ (List.mem_of_getElem? (i := 5) rfl)
theorem k_118 : Cond.instanceMethod yX0_shorten ∈ pwAll := sub_7 _ (List.mem_of_getElem? (i := 6) rfl)
theorem k_119 : Cond.selects RX0 yX0_shorten yX0_shorten ∈ pwAll := sub_7 _ (List.mem_of_getElem? (i := 7) rfl)
theorem k_120 : Cond.code yX0_shorten cX0_shorten 2 none ∈ pwAll := sub_7 _ (List.mem_of_getElem? (i := 8) rfl)
theorem k_121 : Cond.methodLink RX6 103 yX5_length ∈ pwAll := sub_7 _ (List.mem_of_getElem? (i := 9) rfl)
theorem k_122 : Cond.instanceMethod yX5_length ∈ pwAll := sub_7 _ (List.mem_of_getElem? (i := 10) rfl)
theorem k_123 : Cond.selects RX5 yX5_length yX5_length ∈ pwAll := sub_7 _ (List.mem_of_getElem? (i := 11) rfl)
theorem k_124 : Cond.code yX5_length cX5_length 1 (some .int) ∈ pwAll := sub_7 _ (List.mem_of_getElem? (i := 12) rfl)
theorem k_125 : Cond.methodLink RX6 169 yX5_at ∈ pwAll := sub_7 _ (List.mem_of_getElem? (i := 13) rfl)
theorem k_126 : Cond.instanceMethod yX5_at ∈ pwAll := sub_7 _ (List.mem_of_getElem? (i := 14) rfl)
theorem k_127 : Cond.selects RX5 yX5_at yX5_at ∈ pwAll := sub_7 _ (List.mem_of_getElem? (i := 15) rfl)
theorem k_128 : Cond.code yX5_at cX5_at 2 (some .int) ∈ pwAll := sub_8 _ (List.mem_of_getElem? (i := 0) rfl)
theorem k_129 : Cond.methodLink RX6 79 yX3_take ∈ pwAll := sub_8 _ (List.mem_of_getElem? (i := 1) rfl)
theorem k_130 : Cond.instanceMethod yX3_take ∈ pwAll := sub_8 _ (List.mem_of_getElem? (i := 2) rfl)
theorem k_131 : Cond.selects RX3 yX3_take yX3_take ∈ pwAll := sub_8 _ (List.mem_of_getElem? (i := 3) rfl)
theorem k_132 : Cond.code yX3_take cX3_take 2 none ∈ pwAll := sub_8 _ (List.mem_of_getElem? (i := 4) rfl)
theorem k_133 : Cond.methodLink RX6 83 yX1_clear ∈ pwAll := sub_8 _ (List.mem_of_getElem? (i := 5) rfl)
theorem k_134 : Cond.instanceMethod yX1_clear ∈ pwAll := sub_8 _ (List.mem_of_getElem? (i := 6) rfl)
theorem k_135 : Cond.selects RX1 yX1_clear yX1_clear ∈ pwAll := sub_8 _ (List.mem_of_getElem? (i := 7) rfl)
theorem k_136 : Cond.code yX1_clear cX1_clear 1 none ∈ pwAll := sub_8 _ (List.mem_of_getElem? (i := 8) rfl)
theorem k_137 : Cond.methodLink RX6 86 yX3_opens ∈ pwAll := sub_8 _ (List.mem_of_getElem? (i := 9) rfl)
theorem k_138 : Cond.instanceMethod yX3_opens ∈ pwAll := sub_8 _ (List.mem_of_getElem? (i := 10) rfl)
theorem k_139 : Cond.selects RX3 yX3_opens yX3_opens ∈ pwAll := sub_8 _ (List.mem_of_getElem? (i := 11) rfl)
theorem k_140 : Cond.code yX3_opens cX3_opens 4 (some .boolean) ∈ pwAll := sub_8 _ (List.mem_of_getElem? (i := 12) rfl)
theorem k_141 : Cond.methodLink RX6 93 yX6_tell ∈ pwAll := sub_8 _ (List.mem_of_getElem? (i := 13) rfl)
theorem k_142 : Cond.instanceMethod yX6_tell ∈ pwAll := sub_8 _ (List.mem_of_getElem? (i := 14) rfl)
theorem k_143 : Cond.selects RX6 yX6_tell yX6_tell ∈ pwAll := sub_8 _ (List.mem_of_getElem? (i := 15) rfl)
theorem k_144 : Cond.initialized RX6 ∈ pwAll := sub_9 _ (List.mem_of_getElem? (i := 0) rfl)
theorem k_145 : Cond.code yX6_tell cX6_tell 3 (some .int) ∈ pwAll := sub_9 _ (List.mem_of_getElem? (i := 1) rfl)
theorem k_146 : Cond.constantLong RX6 62 (255) ∈ pwAll := sub_9 _ (List.mem_of_getElem? (i := 2) rfl)
theorem k_147 : Cond.methodLink RX6 64 yX0_append ∈ pwAll := sub_9 _ (List.mem_of_getElem? (i := 3) rfl)
theorem k_148 : Cond.instanceMethod yX0_append ∈ pwAll := sub_9 _ (List.mem_of_getElem? (i := 4) rfl)
theorem k_149 : Cond.selects RX0 yX0_append yX0_append ∈ pwAll := sub_9 _ (List.mem_of_getElem? (i := 5) rfl)
theorem k_150 : Cond.code yX0_append cX0_append 2 (some .boolean) ∈ pwAll := sub_9 _ (List.mem_of_getElem? (i := 6) rfl)
theorem k_151 : Cond.methodLink RX7 1 objectInit ∈ pwAll := sub_9 _ (List.mem_of_getElem? (i := 7) rfl)
theorem k_152 : Cond.fieldLink RX7 7 "LoopEnvelopesModel" "text" "[I" ∈ pwAll := sub_9 _ (List.mem_of_getElem? (i := 8) rfl)
theorem k_153 : Cond.fieldLink RX7 13 "LoopEnvelopesModel" "where" "I" ∈ pwAll := sub_9 _ (List.mem_of_getElem? (i := 9) rfl)
theorem k_154 : Cond.fieldLink RX7 17 "LoopEnvelopesModel" "was" "[I" ∈ pwAll := sub_9 _ (List.mem_of_getElem? (i := 10) rfl)
theorem k_155 : Cond.fieldLink RX7 20 "LoopEnvelopesModel" "nameOf" "[I" ∈ pwAll := sub_9 _ (List.mem_of_getElem? (i := 11) rfl)
theorem k_156 : Cond.fieldLink RX7 23 "LoopEnvelopesModel" "elements" "[I" ∈ pwAll := sub_9 _ (List.mem_of_getElem? (i := 12) rfl)
theorem k_157 : Cond.fieldLink RX7 26 "LoopEnvelopesModel" "from" "[I" ∈ pwAll := sub_9 _ (List.mem_of_getElem? (i := 13) rfl)
theorem k_158 : Cond.fieldLink RX7 29 "LoopEnvelopesModel" "long0" "[I" ∈ pwAll := sub_9 _ (List.mem_of_getElem? (i := 14) rfl)
theorem k_159 : Cond.arrayClass .boolean ∈ pwAll := sub_9 _ (List.mem_of_getElem? (i := 15) rfl)
theorem k_160 : Cond.fieldLink RX7 32 "LoopEnvelopesModel" "isIll" "[Z" ∈ pwAll := sub_10 _ (List.mem_of_getElem? (i := 0) rfl)
theorem k_161 : Cond.fieldLink RX7 36 "LoopEnvelopesModel" "fault" "[I" ∈ pwAll := sub_10 _ (List.mem_of_getElem? (i := 1) rfl)
theorem k_162 : Cond.fieldLink RX7 39 "LoopEnvelopesModel" "depth" "[I" ∈ pwAll := sub_10 _ (List.mem_of_getElem? (i := 2) rfl)
theorem k_163 : Cond.fieldLink RX7 42 "LoopEnvelopesModel" "groupSegment" "[I" ∈ pwAll := sub_10 _ (List.mem_of_getElem? (i := 3) rfl)
theorem k_164 : Cond.fieldLink RX7 45 "LoopEnvelopesModel" "groupFirst" "[I" ∈ pwAll := sub_10 _ (List.mem_of_getElem? (i := 4) rfl)
theorem k_165 : Cond.fieldLink RX7 48 "LoopEnvelopesModel" "groupSets" "[I" ∈ pwAll := sub_10 _ (List.mem_of_getElem? (i := 5) rfl)
theorem k_166 : Cond.fieldLink RX7 51 "LoopEnvelopesModel" "setGroup" "[I" ∈ pwAll := sub_10 _ (List.mem_of_getElem? (i := 6) rfl)
theorem k_167 : Cond.fieldLink RX7 54 "LoopEnvelopesModel" "setFirst" "[I" ∈ pwAll := sub_10 _ (List.mem_of_getElem? (i := 7) rfl)
theorem k_168 : Cond.fieldLink RX7 57 "LoopEnvelopesModel" "setMany" "[I" ∈ pwAll := sub_10 _ (List.mem_of_getElem? (i := 8) rfl)
theorem k_169 : Cond.fieldLink RX7 60 "LoopEnvelopesModel" "answer" "[I" ∈ pwAll := sub_10 _ (List.mem_of_getElem? (i := 9) rfl)
theorem k_170 : Cond.fieldLink RX7 119 "LoopEnvelopesModel" "isTaken" "Z" ∈ pwAll := sub_10 _ (List.mem_of_getElem? (i := 10) rfl)
theorem k_171 : Cond.fieldLink RX7 67 "LoopEnvelopesModel" "size" "I" ∈ pwAll := sub_10 _ (List.mem_of_getElem? (i := 11) rfl)
theorem k_172 : Cond.methodLink RX7 63 yX7_in ∈ pwAll := sub_10 _ (List.mem_of_getElem? (i := 12) rfl)
theorem k_173 : Cond.static yX7_in ∈ pwAll := sub_10 _ (List.mem_of_getElem? (i := 13) rfl)
theorem k_174 : Cond.initialized RX7 ∈ pwAll := sub_10 _ (List.mem_of_getElem? (i := 14) rfl)
theorem k_175 : Cond.code yX7_in cX7_in 3 (some .boolean) ∈ pwAll := sub_10 _ (List.mem_of_getElem? (i := 15) rfl)
theorem k_176 : Cond.fieldLink RX7 223 "LoopEnvelopesModel" "answered" "I" ∈ pwAll := sub_11 _ (List.mem_of_getElem? (i := 0) rfl)
theorem k_177 : Cond.methodLink RX7 147 yX7_isOpening ∈ pwAll := sub_11 _ (List.mem_of_getElem? (i := 1) rfl)
theorem k_178 : Cond.instanceMethod yX7_isOpening ∈ pwAll := sub_11 _ (List.mem_of_getElem? (i := 2) rfl)
theorem k_179 : Cond.selects RX7 yX7_isOpening yX7_isOpening ∈ pwAll := sub_11 _ (List.mem_of_getElem? (i := 3) rfl)
theorem k_180 : Cond.code yX7_isOpening cX7_isOpening 3 (some .boolean) ∈ pwAll := sub_11 _ (List.mem_of_getElem? (i := 4) rfl)
theorem k_181 : Cond.methodLink RX7 151 yX7_found ∈ pwAll := sub_11 _ (List.mem_of_getElem? (i := 5) rfl)
theorem k_182 : Cond.instanceMethod yX7_found ∈ pwAll := sub_11 _ (List.mem_of_getElem? (i := 6) rfl)
theorem k_183 : Cond.selects RX7 yX7_found yX7_found ∈ pwAll := sub_11 _ (List.mem_of_getElem? (i := 7) rfl)
theorem k_184 : Cond.code yX7_found cX7_found 3 (some .int) ∈ pwAll := sub_11 _ (List.mem_of_getElem? (i := 8) rfl)
theorem k_185 : Cond.constantLong RX7 70 (255) ∈ pwAll := sub_11 _ (List.mem_of_getElem? (i := 9) rfl)
theorem k_186 : Cond.classLink RL 7 RX6 ∈ pwAll := sub_11 _ (List.mem_of_getElem? (i := 10) rfl)
theorem k_187 : Cond.instantiable RX6 7 ∈ pwAll := sub_11 _ (List.mem_of_getElem? (i := 11) rfl)
theorem k_188 : Cond.code yX6_init cX6_init 1 none ∈ pwAll := sub_11 _ (List.mem_of_getElem? (i := 12) rfl)
theorem k_189 : Cond.methodLink RL 9 yX6_init ∈ pwAll := sub_11 _ (List.mem_of_getElem? (i := 13) rfl)
theorem k_190 : Cond.instanceMethod yX6_init ∈ pwAll := sub_11 _ (List.mem_of_getElem? (i := 14) rfl)
theorem k_191 : Cond.classLink RL 10 RX7 ∈ pwAll := sub_11 _ (List.mem_of_getElem? (i := 15) rfl)
theorem k_192 : Cond.instantiable RX7 29 ∈ pwAll := sub_12 _ (List.mem_of_getElem? (i := 0) rfl)
theorem k_193 : Cond.code yX7_init cX7_init 1 none ∈ pwAll := sub_12 _ (List.mem_of_getElem? (i := 1) rfl)
theorem k_194 : Cond.methodLink RL 12 yX7_init ∈ pwAll := sub_12 _ (List.mem_of_getElem? (i := 2) rfl)
theorem k_195 : Cond.instanceMethod yX7_init ∈ pwAll := sub_12 _ (List.mem_of_getElem? (i := 3) rfl)
theorem k_196 : Cond.constantLong RL 13 (4294967295) ∈ pwAll := sub_12 _ (List.mem_of_getElem? (i := 4) rfl)
theorem k_197 : Cond.methodLink RL 15 yX6_feed ∈ pwAll := sub_12 _ (List.mem_of_getElem? (i := 5) rfl)
theorem k_198 : Cond.instanceMethod yX6_feed ∈ pwAll := sub_12 _ (List.mem_of_getElem? (i := 6) rfl)
theorem k_199 : Cond.selects RX6 yX6_feed yX6_feed ∈ pwAll := sub_12 _ (List.mem_of_getElem? (i := 7) rfl)
theorem k_200 : Cond.code yX6_feed cX6_feed 5 (some .int) ∈ pwAll := sub_12 _ (List.mem_of_getElem? (i := 8) rfl)
theorem k_201 : Cond.methodLink RL 19 yX7_feed ∈ pwAll := sub_12 _ (List.mem_of_getElem? (i := 9) rfl)
theorem k_202 : Cond.instanceMethod yX7_feed ∈ pwAll := sub_12 _ (List.mem_of_getElem? (i := 10) rfl)
theorem k_203 : Cond.selects RX7 yX7_feed yX7_feed ∈ pwAll := sub_12 _ (List.mem_of_getElem? (i := 11) rfl)
theorem k_204 : Cond.code yX7_feed cX7_feed 5 (some .int) ∈ pwAll := sub_12 _ (List.mem_of_getElem? (i := 12) rfl)
theorem k_205 : Cond.methodLink RL 20 yX6_set ∈ pwAll := sub_12 _ (List.mem_of_getElem? (i := 13) rfl)
theorem k_206 : Cond.instanceMethod yX6_set ∈ pwAll := sub_12 _ (List.mem_of_getElem? (i := 14) rfl)
theorem k_207 : Cond.selects RX6 yX6_set yX6_set ∈ pwAll := sub_12 _ (List.mem_of_getElem? (i := 15) rfl)
theorem k_208 : Cond.code yX6_set cX6_set 4 (some .int) ∈ pwAll := sub_13 _ (List.mem_of_getElem? (i := 0) rfl)
theorem k_209 : Cond.methodLink RL 24 yX7_set ∈ pwAll := sub_13 _ (List.mem_of_getElem? (i := 1) rfl)
theorem k_210 : Cond.instanceMethod yX7_set ∈ pwAll := sub_13 _ (List.mem_of_getElem? (i := 2) rfl)
theorem k_211 : Cond.selects RX7 yX7_set yX7_set ∈ pwAll := sub_13 _ (List.mem_of_getElem? (i := 3) rfl)
theorem k_212 : Cond.code yX7_set cX7_set 4 (some .int) ∈ pwAll := sub_13 _ (List.mem_of_getElem? (i := 4) rfl)
theorem k_213 : Cond.methodLink RL 25 yX6_cut ∈ pwAll := sub_13 _ (List.mem_of_getElem? (i := 5) rfl)
theorem k_214 : Cond.instanceMethod yX6_cut ∈ pwAll := sub_13 _ (List.mem_of_getElem? (i := 6) rfl)
theorem k_215 : Cond.selects RX6 yX6_cut yX6_cut ∈ pwAll := sub_13 _ (List.mem_of_getElem? (i := 7) rfl)
theorem k_216 : Cond.code yX6_cut cX6_cut 3 (some .int) ∈ pwAll := sub_13 _ (List.mem_of_getElem? (i := 8) rfl)
theorem k_217 : Cond.methodLink RL 29 yX7_cut ∈ pwAll := sub_13 _ (List.mem_of_getElem? (i := 9) rfl)
theorem k_218 : Cond.instanceMethod yX7_cut ∈ pwAll := sub_13 _ (List.mem_of_getElem? (i := 10) rfl)
theorem k_219 : Cond.selects RX7 yX7_cut yX7_cut ∈ pwAll := sub_13 _ (List.mem_of_getElem? (i := 11) rfl)
theorem k_220 : Cond.code yX7_cut cX7_cut 3 (some .int) ∈ pwAll := sub_13 _ (List.mem_of_getElem? (i := 12) rfl)
theorem k_221 : Cond.methodLink RL 30 yX6_read ∈ pwAll := sub_13 _ (List.mem_of_getElem? (i := 13) rfl)
theorem k_222 : Cond.instanceMethod yX6_read ∈ pwAll := sub_13 _ (List.mem_of_getElem? (i := 14) rfl)
theorem k_223 : Cond.selects RX6 yX6_read yX6_read ∈ pwAll := sub_13 _ (List.mem_of_getElem? (i := 15) rfl)
theorem k_224 : Cond.code yX6_read cX6_read 3 (some .int) ∈ pwAll := sub_14 _ (List.mem_of_getElem? (i := 0) rfl)
theorem k_225 : Cond.methodLink RL 34 yX7_read ∈ pwAll := sub_14 _ (List.mem_of_getElem? (i := 1) rfl)
theorem k_226 : Cond.instanceMethod yX7_read ∈ pwAll := sub_14 _ (List.mem_of_getElem? (i := 2) rfl)
theorem k_227 : Cond.selects RX7 yX7_read yX7_read ∈ pwAll := sub_14 _ (List.mem_of_getElem? (i := 3) rfl)
theorem k_228 : Cond.code yX7_read cX7_read 5 (some .int) ∈ pwAll := sub_14 _ (List.mem_of_getElem? (i := 4) rfl)
theorem k_229 : Cond.methodLink RL 35 yX6_where ∈ pwAll := sub_14 _ (List.mem_of_getElem? (i := 5) rfl)
theorem k_230 : Cond.instanceMethod yX6_where ∈ pwAll := sub_14 _ (List.mem_of_getElem? (i := 6) rfl)
theorem k_231 : Cond.selects RX6 yX6_where yX6_where ∈ pwAll := sub_14 _ (List.mem_of_getElem? (i := 7) rfl)
theorem k_232 : Cond.code yX6_where cX6_where 1 (some .int) ∈ pwAll := sub_14 _ (List.mem_of_getElem? (i := 8) rfl)
theorem k_233 : Cond.methodLink RL 38 yX7_where ∈ pwAll := sub_14 _ (List.mem_of_getElem? (i := 9) rfl)
theorem k_234 : Cond.instanceMethod yX7_where ∈ pwAll := sub_14 _ (List.mem_of_getElem? (i := 10) rfl)
theorem k_235 : Cond.selects RX7 yX7_where yX7_where ∈ pwAll := sub_14 _ (List.mem_of_getElem? (i := 11) rfl)
theorem k_236 : Cond.code yX7_where cX7_where 1 (some .int) ∈ pwAll := sub_14 _ (List.mem_of_getElem? (i := 12) rfl)
theorem k_237 : Cond.methodLink RL 39 yX6_count ∈ pwAll := sub_14 _ (List.mem_of_getElem? (i := 13) rfl)
theorem k_238 : Cond.instanceMethod yX6_count ∈ pwAll := sub_14 _ (List.mem_of_getElem? (i := 14) rfl)
theorem k_239 : Cond.selects RX6 yX6_count yX6_count ∈ pwAll := sub_14 _ (List.mem_of_getElem? (i := 15) rfl)
theorem k_240 : Cond.code yX6_count cX6_count 2 (some .int) ∈ pwAll := sub_15 _ (List.mem_of_getElem? (i := 0) rfl)
theorem k_241 : Cond.methodLink RL 42 yX7_count ∈ pwAll := sub_15 _ (List.mem_of_getElem? (i := 1) rfl)
theorem k_242 : Cond.instanceMethod yX7_count ∈ pwAll := sub_15 _ (List.mem_of_getElem? (i := 2) rfl)
theorem k_243 : Cond.selects RX7 yX7_count yX7_count ∈ pwAll := sub_15 _ (List.mem_of_getElem? (i := 3) rfl)
theorem k_244 : Cond.code yX7_count cX7_count 2 (some .int) ∈ pwAll := sub_15 _ (List.mem_of_getElem? (i := 4) rfl)
theorem k_245 : Cond.methodLink RL 43 yX6_group ∈ pwAll := sub_15 _ (List.mem_of_getElem? (i := 5) rfl)
theorem k_246 : Cond.instanceMethod yX6_group ∈ pwAll := sub_15 _ (List.mem_of_getElem? (i := 6) rfl)
theorem k_247 : Cond.selects RX6 yX6_group yX6_group ∈ pwAll := sub_15 _ (List.mem_of_getElem? (i := 7) rfl)
theorem k_248 : Cond.code yX6_group cX6_group 3 (some .int) ∈ pwAll := sub_15 _ (List.mem_of_getElem? (i := 8) rfl)
theorem k_249 : Cond.methodLink RL 46 yX7_group ∈ pwAll := sub_15 _ (List.mem_of_getElem? (i := 9) rfl)
theorem k_250 : Cond.instanceMethod yX7_group ∈ pwAll := sub_15 _ (List.mem_of_getElem? (i := 10) rfl)
theorem k_251 : Cond.selects RX7 yX7_group yX7_group ∈ pwAll := sub_15 _ (List.mem_of_getElem? (i := 11) rfl)
theorem k_252 : Cond.code yX7_group cX7_group 4 (some .int) ∈ pwAll := sub_15 _ (List.mem_of_getElem? (i := 12) rfl)
theorem k_253 : Cond.methodLink RL 47 yX6_setOf ∈ pwAll := sub_15 _ (List.mem_of_getElem? (i := 13) rfl)
theorem k_254 : Cond.instanceMethod yX6_setOf ∈ pwAll := sub_15 _ (List.mem_of_getElem? (i := 14) rfl)
theorem k_255 : Cond.selects RX6 yX6_setOf yX6_setOf ∈ pwAll := sub_15 _ (List.mem_of_getElem? (i := 15) rfl)
theorem k_256 : Cond.code yX6_setOf cX6_setOf 3 (some .int) ∈ pwAll := sub_16 _ (List.mem_of_getElem? (i := 0) rfl)
theorem k_257 : Cond.methodLink RL 50 yX7_setOf ∈ pwAll := sub_16 _ (List.mem_of_getElem? (i := 1) rfl)
theorem k_258 : Cond.instanceMethod yX7_setOf ∈ pwAll := sub_16 _ (List.mem_of_getElem? (i := 2) rfl)
theorem k_259 : Cond.selects RX7 yX7_setOf yX7_setOf ∈ pwAll := sub_16 _ (List.mem_of_getElem? (i := 3) rfl)
theorem k_260 : Cond.code yX7_setOf cX7_setOf 7 (some .int) ∈ pwAll := sub_16 _ (List.mem_of_getElem? (i := 4) rfl)
theorem k_261 : Cond.methodLink RL 51 yX6_fault ∈ pwAll := sub_16 _ (List.mem_of_getElem? (i := 5) rfl)
theorem k_262 : Cond.instanceMethod yX6_fault ∈ pwAll := sub_16 _ (List.mem_of_getElem? (i := 6) rfl)
theorem k_263 : Cond.selects RX6 yX6_fault yX6_fault ∈ pwAll := sub_16 _ (List.mem_of_getElem? (i := 7) rfl)
theorem k_264 : Cond.code yX6_fault cX6_fault 5 (some .int) ∈ pwAll := sub_16 _ (List.mem_of_getElem? (i := 8) rfl)
theorem k_265 : Cond.methodLink RL 55 yX7_fault ∈ pwAll := sub_16 _ (List.mem_of_getElem? (i := 9) rfl)
theorem k_266 : Cond.instanceMethod yX7_fault ∈ pwAll := sub_16 _ (List.mem_of_getElem? (i := 10) rfl)
theorem k_267 : Cond.selects RX7 yX7_fault yX7_fault ∈ pwAll := sub_16 _ (List.mem_of_getElem? (i := 11) rfl)
theorem k_268 : Cond.code yX7_fault cX7_fault 5 (some .int) ∈ pwAll := sub_16 _ (List.mem_of_getElem? (i := 12) rfl)
theorem k_269 : Cond.methodLink RL 56 yX6_level ∈ pwAll := sub_16 _ (List.mem_of_getElem? (i := 13) rfl)
theorem k_270 : Cond.instanceMethod yX6_level ∈ pwAll := sub_16 _ (List.mem_of_getElem? (i := 14) rfl)
theorem k_271 : Cond.selects RX6 yX6_level yX6_level ∈ pwAll := sub_16 _ (List.mem_of_getElem? (i := 15) rfl)
theorem k_272 : Cond.code yX6_level cX6_level 5 (some .int) ∈ pwAll := sub_17 _ (List.mem_of_getElem? (i := 0) rfl)
theorem k_273 : Cond.methodLink RL 59 yX7_level ∈ pwAll := sub_17 _ (List.mem_of_getElem? (i := 1) rfl)
theorem k_274 : Cond.instanceMethod yX7_level ∈ pwAll := sub_17 _ (List.mem_of_getElem? (i := 2) rfl)
theorem k_275 : Cond.selects RX7 yX7_level yX7_level ∈ pwAll := sub_17 _ (List.mem_of_getElem? (i := 3) rfl)
theorem k_276 : Cond.code yX7_level cX7_level 5 (some .int) ∈ pwAll := sub_17 _ (List.mem_of_getElem? (i := 4) rfl)
theorem k_277 : Cond.methodLink RL 60 yX6_claim ∈ pwAll := sub_17 _ (List.mem_of_getElem? (i := 5) rfl)
theorem k_278 : Cond.instanceMethod yX6_claim ∈ pwAll := sub_17 _ (List.mem_of_getElem? (i := 6) rfl)
theorem k_279 : Cond.selects RX6 yX6_claim yX6_claim ∈ pwAll := sub_17 _ (List.mem_of_getElem? (i := 7) rfl)
theorem k_280 : Cond.code yX6_claim cX6_claim 6 (some .int) ∈ pwAll := sub_17 _ (List.mem_of_getElem? (i := 8) rfl)
theorem k_281 : Cond.methodLink RL 63 yX7_claim ∈ pwAll := sub_17 _ (List.mem_of_getElem? (i := 9) rfl)
theorem k_282 : Cond.instanceMethod yX7_claim ∈ pwAll := sub_17 _ (List.mem_of_getElem? (i := 10) rfl)
theorem k_283 : Cond.selects RX7 yX7_claim yX7_claim ∈ pwAll := sub_17 _ (List.mem_of_getElem? (i := 11) rfl)
theorem k_284 : Cond.code yX7_claim cX7_claim 7 (some .int) ∈ pwAll := sub_17 _ (List.mem_of_getElem? (i := 12) rfl)
theorem k_285 : Cond.methodLink RL 64 yX6_size ∈ pwAll := sub_17 _ (List.mem_of_getElem? (i := 13) rfl)
theorem k_286 : Cond.instanceMethod yX6_size ∈ pwAll := sub_17 _ (List.mem_of_getElem? (i := 14) rfl)
theorem k_287 : Cond.selects RX6 yX6_size yX6_size ∈ pwAll := sub_17 _ (List.mem_of_getElem? (i := 15) rfl)
theorem k_288 : Cond.code yX6_size cX6_size 3 (some .int) ∈ pwAll := sub_18 _ (List.mem_of_getElem? (i := 0) rfl)
theorem k_289 : Cond.methodLink RL 67 yX7_size ∈ pwAll := sub_18 _ (List.mem_of_getElem? (i := 1) rfl)
theorem k_290 : Cond.instanceMethod yX7_size ∈ pwAll := sub_18 _ (List.mem_of_getElem? (i := 2) rfl)
theorem k_291 : Cond.selects RX7 yX7_size yX7_size ∈ pwAll := sub_18 _ (List.mem_of_getElem? (i := 3) rfl)
theorem k_292 : Cond.code yX7_size cX7_size 3 (some .int) ∈ pwAll := sub_18 _ (List.mem_of_getElem? (i := 4) rfl)
theorem k_293 : Cond.methodLink RL 68 yX6_byteOf ∈ pwAll := sub_18 _ (List.mem_of_getElem? (i := 5) rfl)
theorem k_294 : Cond.instanceMethod yX6_byteOf ∈ pwAll := sub_18 _ (List.mem_of_getElem? (i := 6) rfl)
theorem k_295 : Cond.selects RX6 yX6_byteOf yX6_byteOf ∈ pwAll := sub_18 _ (List.mem_of_getElem? (i := 7) rfl)
theorem k_296 : Cond.code yX6_byteOf cX6_byteOf 5 (some .int) ∈ pwAll := sub_18 _ (List.mem_of_getElem? (i := 8) rfl)
theorem k_297 : Cond.methodLink RL 71 yX7_byteOf ∈ pwAll := sub_18 _ (List.mem_of_getElem? (i := 9) rfl)
theorem k_298 : Cond.instanceMethod yX7_byteOf ∈ pwAll := sub_18 _ (List.mem_of_getElem? (i := 10) rfl)
theorem k_299 : Cond.selects RX7 yX7_byteOf yX7_byteOf ∈ pwAll := sub_18 _ (List.mem_of_getElem? (i := 11) rfl)
theorem k_300 : Cond.code yX7_byteOf cX7_byteOf 4 (some .int) ∈ pwAll := sub_18 _ (List.mem_of_getElem? (i := 12) rfl)
theorem k_301 : Cond.methodLink RL 72 yX6_answer ∈ pwAll := sub_18 _ (List.mem_of_getElem? (i := 13) rfl)
theorem k_302 : Cond.instanceMethod yX6_answer ∈ pwAll := sub_18 _ (List.mem_of_getElem? (i := 14) rfl)
theorem k_303 : Cond.selects RX6 yX6_answer yX6_answer ∈ pwAll := sub_18 _ (List.mem_of_getElem? (i := 15) rfl)
theorem k_304 : Cond.code yX6_answer cX6_answer 2 (some .int) ∈ pwAll := sub_19 _ (List.mem_of_getElem? (i := 0) rfl)
theorem k_305 : Cond.methodLink RL 75 yX7_answer ∈ pwAll := sub_19 _ (List.mem_of_getElem? (i := 1) rfl)
theorem k_306 : Cond.instanceMethod yX7_answer ∈ pwAll := sub_19 _ (List.mem_of_getElem? (i := 2) rfl)
theorem k_307 : Cond.selects RX7 yX7_answer yX7_answer ∈ pwAll := sub_19 _ (List.mem_of_getElem? (i := 3) rfl)
theorem k_308 : Cond.code yX7_answer cX7_answer 2 (some .int) ∈ pwAll := sub_19 _ (List.mem_of_getElem? (i := 4) rfl)
theorem k_309 : Cond.methodLink RL 76 yX6_answered ∈ pwAll := sub_19 _ (List.mem_of_getElem? (i := 5) rfl)
theorem k_310 : Cond.instanceMethod yX6_answered ∈ pwAll := sub_19 _ (List.mem_of_getElem? (i := 6) rfl)
theorem k_311 : Cond.selects RX6 yX6_answered yX6_answered ∈ pwAll := sub_19 _ (List.mem_of_getElem? (i := 7) rfl)
theorem k_312 : Cond.code yX6_answered cX6_answered 3 (some .int) ∈ pwAll := sub_19 _ (List.mem_of_getElem? (i := 8) rfl)
theorem k_313 : Cond.methodLink RL 79 yX7_answered ∈ pwAll := sub_19 _ (List.mem_of_getElem? (i := 9) rfl)
theorem k_314 : Cond.instanceMethod yX7_answered ∈ pwAll := sub_19 _ (List.mem_of_getElem? (i := 10) rfl)
theorem k_315 : Cond.selects RX7 yX7_answered yX7_answered ∈ pwAll := sub_19 _ (List.mem_of_getElem? (i := 11) rfl)
theorem k_316 : Cond.code yX7_answered cX7_answered 2 (some .int) ∈ pwAll := sub_19 _ (List.mem_of_getElem? (i := 12) rfl)
theorem k_317 : Cond.methodLink RL 80 yX6_turn ∈ pwAll := sub_19 _ (List.mem_of_getElem? (i := 13) rfl)
theorem k_318 : Cond.instanceMethod yX6_turn ∈ pwAll := sub_19 _ (List.mem_of_getElem? (i := 14) rfl)
theorem k_319 : Cond.selects RX6 yX6_turn yX6_turn ∈ pwAll := sub_19 _ (List.mem_of_getElem? (i := 15) rfl)
theorem k_320 : Cond.code yX6_turn cX6_turn 2 (some .int) ∈ pwAll := sub_20 _ (List.mem_of_getElem? (i := 0) rfl)
theorem k_321 : Cond.methodLink RL 83 yX7_turn ∈ pwAll := sub_20 _ (List.mem_of_getElem? (i := 1) rfl)
theorem k_322 : Cond.instanceMethod yX7_turn ∈ pwAll := sub_20 _ (List.mem_of_getElem? (i := 2) rfl)
theorem k_323 : Cond.selects RX7 yX7_turn yX7_turn ∈ pwAll := sub_20 _ (List.mem_of_getElem? (i := 3) rfl)
theorem k_324 : Cond.code yX7_turn cX7_turn 2 (some .int) ∈ pwAll := sub_20 _ (List.mem_of_getElem? (i := 4) rfl)
def pwX0_append : List Cond := .code yX0_append cX0_append 2 (some .boolean) :: pwAll
def pwX0_at : List Cond := .code yX0_at cX0_at 2 (some .int) :: pwAll
def pwX0_become : List Cond := .code yX0_become cX0_become 3 none :: pwAll
def pwX0_init : List Cond := .code yX0_init cX0_init 2 none :: pwAll
def pwX0_length : List Cond := .code yX0_length cX0_length 1 (some .int) :: pwAll
def pwX0_shorten : List Cond := .code yX0_shorten cX0_shorten 2 none :: pwAll
def pwX1_clear : List Cond := .code yX1_clear cX1_clear 1 none :: pwAll
def pwX1_init : List Cond := .code yX1_init cX1_init 2 none :: pwAll
def pwX2_init : List Cond := .code yX2_init cX2_init 3 none :: pwAll
def pwX3_closer : List Cond := .code yX3_closer cX3_closer 1 (some .int) :: pwAll
def pwX3_init : List Cond := .code yX3_init cX3_init 1 none :: pwAll
def pwX3_opens : List Cond := .code yX3_opens cX3_opens 4 (some .boolean) :: pwAll
def pwX3_splitter : List Cond := .code yX3_splitter cX3_splitter 1 (some .int) :: pwAll
def pwX3_take : List Cond := .code yX3_take cX3_take 2 none :: pwAll
def pwX4_init : List Cond := .code yX4_init cX4_init 3 none :: pwAll
def pwX5_at : List Cond := .code yX5_at cX5_at 2 (some .int) :: pwAll
def pwX5_init : List Cond := .code yX5_init cX5_init 2 none :: pwAll
def pwX5_length : List Cond := .code yX5_length cX5_length 1 (some .int) :: pwAll
def pwX6_answer : List Cond := .code yX6_answer cX6_answer 2 (some .int) :: pwAll
def pwX6_answered : List Cond := .code yX6_answered cX6_answered 3 (some .int) :: pwAll
def pwX6_byteOf : List Cond := .code yX6_byteOf cX6_byteOf 5 (some .int) :: pwAll
def pwX6_claim : List Cond := .code yX6_claim cX6_claim 6 (some .int) :: pwAll
def pwX6_count : List Cond := .code yX6_count cX6_count 2 (some .int) :: pwAll
def pwX6_cut : List Cond := .code yX6_cut cX6_cut 3 (some .int) :: pwAll
def pwX6_fault : List Cond := .code yX6_fault cX6_fault 5 (some .int) :: pwAll
def pwX6_feed : List Cond := .code yX6_feed cX6_feed 5 (some .int) :: pwAll
def pwX6_group : List Cond := .code yX6_group cX6_group 3 (some .int) :: pwAll
def pwX6_init : List Cond := .code yX6_init cX6_init 1 none :: pwAll
def pwX6_level : List Cond := .code yX6_level cX6_level 5 (some .int) :: pwAll
def pwX6_read : List Cond := .code yX6_read cX6_read 3 (some .int) :: pwAll
def pwX6_set : List Cond := .code yX6_set cX6_set 4 (some .int) :: pwAll
def pwX6_setOf : List Cond := .code yX6_setOf cX6_setOf 3 (some .int) :: pwAll
def pwX6_size : List Cond := .code yX6_size cX6_size 3 (some .int) :: pwAll
def pwX6_tell : List Cond := .code yX6_tell cX6_tell 3 (some .int) :: pwAll
def pwX6_turn : List Cond := .code yX6_turn cX6_turn 2 (some .int) :: pwAll
def pwX6_where : List Cond := .code yX6_where cX6_where 1 (some .int) :: pwAll
def pwX7_answer : List Cond := .code yX7_answer cX7_answer 2 (some .int) :: pwAll
def pwX7_answered : List Cond := .code yX7_answered cX7_answered 2 (some .int) :: pwAll
def pwX7_byteOf : List Cond := .code yX7_byteOf cX7_byteOf 4 (some .int) :: pwAll
def pwX7_claim : List Cond := .code yX7_claim cX7_claim 7 (some .int) :: pwAll
def pwX7_count : List Cond := .code yX7_count cX7_count 2 (some .int) :: pwAll
def pwX7_cut : List Cond := .code yX7_cut cX7_cut 3 (some .int) :: pwAll
def pwX7_fault : List Cond := .code yX7_fault cX7_fault 5 (some .int) :: pwAll
def pwX7_feed : List Cond := .code yX7_feed cX7_feed 5 (some .int) :: pwAll
def pwX7_found : List Cond := .code yX7_found cX7_found 3 (some .int) :: pwAll
def pwX7_group : List Cond := .code yX7_group cX7_group 4 (some .int) :: pwAll
def pwX7_in : List Cond := .code yX7_in cX7_in 3 (some .boolean) :: pwAll
def pwX7_init : List Cond := .code yX7_init cX7_init 1 none :: pwAll
def pwX7_isOpening : List Cond := .code yX7_isOpening cX7_isOpening 3 (some .boolean) :: pwAll
def pwX7_level : List Cond := .code yX7_level cX7_level 5 (some .int) :: pwAll
def pwX7_read : List Cond := .code yX7_read cX7_read 5 (some .int) :: pwAll
def pwX7_set : List Cond := .code yX7_set cX7_set 4 (some .int) :: pwAll
def pwX7_setOf : List Cond := .code yX7_setOf cX7_setOf 7 (some .int) :: pwAll
def pwX7_size : List Cond := .code yX7_size cX7_size 3 (some .int) :: pwAll
def pwX7_turn : List Cond := .code yX7_turn cX7_turn 2 (some .int) :: pwAll
def pwX7_where : List Cond := .code yX7_where cX7_where 1 (some .int) :: pwAll
