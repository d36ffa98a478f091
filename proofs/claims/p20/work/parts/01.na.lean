theorem goodIn_r {big : List Cond} (ws : List Cond) (ps : List Nat) (hp : ws = ps.filterMap (fun i => big[i]?)) (h : ws.all goodWord = true) : GoodIn big ws := by
  intro w hw
  have h1 := List.all_eq_true.mp h w hw
  rw [hp] at hw
  obtain ⟨i, -, hi⟩ := List.mem_filterMap.mp hw
  have hm : w ∈ big := by first | exact List.mem_of_getElem? hi | exact List.getElem?_mem hi
  exact ⟨hm, good_of_word h1⟩
theorem goodIn_app {big a b : List Cond} (ha : GoodIn big a) (hb : GoodIn big b) : GoodIn big (a ++ b) := fun w h => (List.mem_append.mp h).elim (ha w) (hb w)
theorem goodIn_ca {big a b : List Cond} {c : Cond} (ha : GoodIn big (c :: a)) (hb : GoodIn big b) : GoodIn big (c :: (a ++ b)) := fun w h => (List.mem_cons.mp h).elim (fun e => ha w (List.mem_cons.mpr (Or.inl e))) (fun h => (List.mem_append.mp h).elim (fun h => ha w (List.mem_cons.mpr (Or.inr h))) (hb w))
theorem goodIn_sub {big ws : List Cond} (hm : ∀ w ∈ ws, w ∈ big) (h : ws.all goodWord = true) : GoodIn big ws := fun w hw => ⟨hm w hw, good_of_word (List.all_eq_true.mp h w hw)⟩
def RX0 : String := "DriftDesk$Clue"
def TX0 : u_T := fun k => match k with
  | 0 => ("DriftDesk$Proof", "takenBack", "Z", false)
  | 1 => ("DriftDesk$Clue", "moment", "I", true)
  | 2 => ("DriftDesk$Clue", "x", "I", true)
  | 3 => ("DriftDesk$Clue", "y", "I", true)
  | 4 => ("DriftDesk$Clue", "reach", "I", true)
  | _ => ("DriftDesk$Clue", "percentElsewhere", "I", true)
def tyX0 : Nat → FieldType := fun k => match k with
  | 0 => .boolean
  | 1 => .int
  | 2 => .int
  | 3 => .int
  | 4 => .int
  | _ => .int
abbrev wsX00 : List Cond := u_ws RX0 TX0 6
theorem nmX0 : ∀ a, a < 6 → ∀ b, b < 6 → a ≠ b → (TX0 a).2.1 ≠ (TX0 b).2.1 := by decide +kernel
theorem tyX0_ok : ∀ k, k < 6 → parseFieldDescriptor (TX0 k).2.2.1 = some (tyX0 k) := by decide +kernel
abbrev cX0_init : ByteArray := prog_2_method_1_code
def yX0_init : MethodName := ⟨RX0, "<init>", "(IIIII)V"⟩
abbrev cX0_weighing : ByteArray := prog_2_method_2_code
def yX0_weighing : MethodName := ⟨RX0, "weighing", "(LDriftDesk$Tale;LDriftDesk$Sea;)I"⟩
def RX1 : String := "DriftDesk$Flow"
def TX1 : u_T := fun k => match k with
  | 0 => ("DriftDesk$Flow", "stepsX", "[B", true)
  | 1 => ("DriftDesk$Flow", "stepsY", "[B", true)
  | _ => ("DriftDesk$Flow", "told", "[Z", true)
def tyX1 : Nat → FieldType := fun k => match k with
  | 0 => .array .byte
  | 1 => .array .byte
  | _ => .array .boolean
abbrev wsX10 : List Cond := u_ws RX1 TX1 3
theorem nmX1 : ∀ a, a < 3 → ∀ b, b < 3 → a ≠ b → (TX1 a).2.1 ≠ (TX1 b).2.1 := by decide +kernel
theorem tyX1_ok : ∀ k, k < 3 → parseFieldDescriptor (TX1 k).2.2.1 = some (tyX1 k) := by decide +kernel
abbrev cX1_init : ByteArray := prog_3_method_1_code
def yX1_init : MethodName := ⟨RX1, "<init>", "()V"⟩
abbrev cX1_clear : ByteArray := prog_3_method_2_code
def yX1_clear : MethodName := ⟨RX1, "clear", "()V"⟩
abbrev cX1_isTold : ByteArray := prog_3_method_3_code
def yX1_isTold : MethodName := ⟨RX1, "isTold", "(I)Z"⟩
abbrev cX1_tell : ByteArray := prog_3_method_4_code
def yX1_tell : MethodName := ⟨RX1, "tell", "(III)V"⟩
abbrev cX1_settle : ByteArray := prog_3_method_5_code
def yX1_settle : MethodName := ⟨RX1, "settle", "()V"⟩
abbrev cX1_stepIn : ByteArray := prog_3_method_6_code
def yX1_stepIn : MethodName := ⟨RX1, "stepIn", "(IZ)I"⟩
def RX2 : String := "DriftDesk$Proof"
def TX2 : u_T := fun k => match k with
  | _ => ("", "", "", false)
def tyX2 : Nat → FieldType := fun k => match k with
  | _ => .int
abbrev wsX20 : List Cond := u_ws RX2 TX2 0
theorem nmX2 : ∀ a, a < 0 → ∀ b, b < 0 → a ≠ b → (TX2 a).2.1 ≠ (TX2 b).2.1 := by decide +kernel
theorem tyX2_ok : ∀ k, k < 0 → parseFieldDescriptor (TX2 k).2.2.1 = some (tyX2 k) := by decide +kernel
abbrev cX2_init : ByteArray := prog_4_method_1_code
def yX2_init : MethodName := ⟨RX2, "<init>", "()V"⟩
abbrev cX2_isStanding : ByteArray := prog_4_method_2_code
def yX2_isStanding : MethodName := ⟨RX2, "isStanding", "()Z"⟩
abbrev cX2_takeBack : ByteArray := prog_4_method_3_code
def yX2_takeBack : MethodName := ⟨RX2, "takeBack", "()V"⟩
def RX3 : String := "DriftDesk$Sea"
def TX3 : u_T := fun k => match k with
  | 0 => ("DriftDesk$Sea", "winds", "LDriftDesk$Flow;", true)
  | 1 => ("DriftDesk$Sea", "streams", "[LDriftDesk$Flow;", true)
  | 2 => ("DriftDesk$Sea", "lees", "[I", true)
  | 3 => ("DriftDesk$Sea", "lands", "[Z", true)
  | 4 => ("DriftDesk$Sea", "misses", "[I", true)
  | _ => ("DriftDesk$Sea", "lines", "I", false)
def tyX3 : Nat → FieldType := fun k => match k with
  | 0 => .object "DriftDesk$Flow"
  | 1 => .array (.object "DriftDesk$Flow")
  | 2 => .array .int
  | 3 => .array .boolean
  | 4 => .array .int
  | _ => .int
abbrev wsX30 : List Cond := u_ws RX3 TX3 6
theorem nmX3 : ∀ a, a < 6 → ∀ b, b < 6 → a ≠ b → (TX3 a).2.1 ≠ (TX3 b).2.1 := by decide +kernel
theorem tyX3_ok : ∀ k, k < 6 → parseFieldDescriptor (TX3 k).2.2.1 = some (tyX3 k) := by decide +kernel
abbrev cX3_init : ByteArray := prog_5_method_1_code
def yX3_init : MethodName := ⟨RX3, "<init>", "()V"⟩
abbrev cX3_clear : ByteArray := prog_5_method_2_code
def yX3_clear : MethodName := ⟨RX3, "clear", "()V"⟩
abbrev cX3_settle : ByteArray := prog_5_method_3_code
def yX3_settle : MethodName := ⟨RX3, "settle", "()V"⟩
abbrev cX3_lines : ByteArray := prog_5_method_4_code
def yX3_lines : MethodName := ⟨RX3, "lines", "()I"⟩
abbrev cX3_countLine : ByteArray := prog_5_method_5_code
def yX3_countLine : MethodName := ⟨RX3, "countLine", "()V"⟩
abbrev cX3_isWindTold : ByteArray := prog_5_method_6_code
def yX3_isWindTold : MethodName := ⟨RX3, "isWindTold", "(I)Z"⟩
abbrev cX3_tellWind : ByteArray := prog_5_method_7_code
def yX3_tellWind : MethodName := ⟨RX3, "tellWind", "(III)V"⟩
abbrev cX3_windOf : ByteArray := prog_5_method_8_code
def yX3_windOf : MethodName := ⟨RX3, "windOf", "(IZ)I"⟩
abbrev cX3_isStreamTold : ByteArray := prog_5_method_9_code
def yX3_isStreamTold : MethodName := ⟨RX3, "isStreamTold", "(II)Z"⟩
abbrev cX3_tellStream : ByteArray := prog_5_method_10_code
def yX3_tellStream : MethodName := ⟨RX3, "tellStream", "(IIII)V"⟩
abbrev cX3_streamOf : ByteArray := prog_5_method_11_code
def yX3_streamOf : MethodName := ⟨RX3, "streamOf", "(IIZ)I"⟩
abbrev cX3_isLeeTold : ByteArray := prog_5_method_12_code
def yX3_isLeeTold : MethodName := ⟨RX3, "isLeeTold", "(I)Z"⟩
abbrev cX3_tellLee : ByteArray := prog_5_method_13_code
def yX3_tellLee : MethodName := ⟨RX3, "tellLee", "(II)V"⟩
abbrev cX3_hasLand : ByteArray := prog_5_method_14_code
def yX3_hasLand : MethodName := ⟨RX3, "hasLand", "(I)Z"⟩
abbrev cX3_tellLand : ByteArray := prog_5_method_15_code
def yX3_tellLand : MethodName := ⟨RX3, "tellLand", "(I)V"⟩
abbrev cX3_isMissTold : ByteArray := prog_5_method_16_code
def yX3_isMissTold : MethodName := ⟨RX3, "isMissTold", "(II)Z"⟩
abbrev cX3_tellMiss : ByteArray := prog_5_method_17_code
def yX3_tellMiss : MethodName := ⟨RX3, "tellMiss", "(III)V"⟩
abbrev cX3_missOf : ByteArray := prog_5_method_18_code
def yX3_missOf : MethodName := ⟨RX3, "missOf", "(II)I"⟩
abbrev cX3_missFits : ByteArray := prog_5_method_19_code
def yX3_missFits : MethodName := ⟨RX3, "missFits", "(III)Z"⟩
abbrev cX3_stepOf : ByteArray := prog_5_method_20_code
def yX3_stepOf : MethodName := ⟨RX3, "stepOf", "(IIIZ)I"⟩
def RX4 : String := "DriftDesk$SeaReader"
def TX4 : u_T := fun k => match k with
  | 0 => ("DriftDesk$SeaReader", "tokens", "LDriftDesk$Tokens;", true)
  | 1 => ("DriftDesk$SeaReader", "numbers", "[I", true)
  | 2 => ("DriftDesk$SeaReader", "fault", "I", false)
  | _ => ("DriftDesk$SeaReader", "faultAt", "I", false)
def tyX4 : Nat → FieldType := fun k => match k with
  | 0 => .object "DriftDesk$Tokens"
  | 1 => .array .int
  | 2 => .int
  | _ => .int
abbrev wsX40 : List Cond := u_ws RX4 TX4 4
theorem nmX4 : ∀ a, a < 4 → ∀ b, b < 4 → a ≠ b → (TX4 a).2.1 ≠ (TX4 b).2.1 := by decide +kernel
theorem tyX4_ok : ∀ k, k < 4 → parseFieldDescriptor (TX4 k).2.2.1 = some (tyX4 k) := by decide +kernel
abbrev cX4_init : ByteArray := prog_6_method_1_code
def yX4_init : MethodName := ⟨RX4, "<init>", "(LDriftDesk$Tape;)V"⟩
abbrev cX4_foundFault : ByteArray := prog_6_method_2_code
def yX4_foundFault : MethodName := ⟨RX4, "foundFault", "()I"⟩
abbrev cX4_foundAt : ByteArray := prog_6_method_3_code
def yX4_foundAt : MethodName := ⟨RX4, "foundAt", "()I"⟩
abbrev cX4_readInto : ByteArray := prog_6_method_4_code
def yX4_readInto : MethodName := ⟨RX4, "readInto", "(LDriftDesk$Sea;)Z"⟩
abbrev cX4_readLine : ByteArray := prog_6_method_5_code
def yX4_readLine : MethodName := ⟨RX4, "readLine", "(LDriftDesk$Sea;)V"⟩
abbrev cX4_sortOfWord : ByteArray := prog_6_method_6_code
def yX4_sortOfWord : MethodName := ⟨RX4, "sortOfWord", "()I"⟩
abbrev cX4_readNumber : ByteArray := prog_6_method_7_code
def yX4_readNumber : MethodName := ⟨RX4, "readNumber", "(LDriftDesk$Sea;II)V"⟩
abbrev cX4_isThere : ByteArray := prog_6_method_8_code
def yX4_isThere : MethodName := ⟨RX4, "isThere", "(I)Z"⟩
abbrev cX4_note : ByteArray := prog_6_method_9_code
def yX4_note : MethodName := ⟨RX4, "note", "(I)V"⟩
abbrev cX4_isTold : ByteArray := prog_6_method_10_code
def yX4_isTold : MethodName := ⟨RX4, "isTold", "(LDriftDesk$Sea;I)Z"⟩
abbrev cX4_tell : ByteArray := prog_6_method_11_code
def yX4_tell : MethodName := ⟨RX4, "tell", "(LDriftDesk$Sea;I)V"⟩
def RX5 : String := "DriftDesk$Search"
def TX5 : u_T := fun k => match k with
  | 0 => ("DriftDesk$Proof", "takenBack", "Z", false)
  | 1 => ("DriftDesk$Search", "moment", "I", true)
  | 2 => ("DriftDesk$Search", "firstColumn", "I", true)
  | 3 => ("DriftDesk$Search", "lastColumn", "I", true)
  | 4 => ("DriftDesk$Search", "firstRow", "I", true)
  | 5 => ("DriftDesk$Search", "lastRow", "I", true)
  | 6 => ("DriftDesk$Search", "sort", "I", true)
  | _ => ("DriftDesk$Search", "effort", "I", true)
def tyX5 : Nat → FieldType := fun k => match k with
  | 0 => .boolean
  | 1 => .int
  | 2 => .int
  | 3 => .int
  | 4 => .int
  | 5 => .int
  | 6 => .int
  | _ => .int
abbrev wsX50 : List Cond := u_ws RX5 TX5 8
theorem nmX5 : ∀ a, a < 8 → ∀ b, b < 8 → a ≠ b → (TX5 a).2.1 ≠ (TX5 b).2.1 := by decide +kernel
theorem tyX5_ok : ∀ k, k < 8 → parseFieldDescriptor (TX5 k).2.2.1 = some (tyX5 k) := by decide +kernel
abbrev cX5_init : ByteArray := prog_7_method_1_code
def yX5_init : MethodName := ⟨RX5, "<init>", "(IIIIIII)V"⟩
abbrev cX5_weighing : ByteArray := prog_7_method_2_code
def yX5_weighing : MethodName := ⟨RX5, "weighing", "(LDriftDesk$Tale;LDriftDesk$Sea;)I"⟩
abbrev cX5_hasCell : ByteArray := prog_7_method_3_code
def yX5_hasCell : MethodName := ⟨RX5, "hasCell", "(I)Z"⟩
def RX6 : String := "DriftDesk$Split"
def TX6 : u_T := fun k => match k with
  | 0 => ("DriftDesk$Split", "cells", "[I", true)
  | 1 => ("DriftDesk$Split", "odds", "[J", true)
  | 2 => ("DriftDesk$Split", "steps", "[I", true)
  | 3 => ("DriftDesk$Split", "found", "[I", true)
  | 4 => ("DriftDesk$Split", "most", "[J", true)
  | 5 => ("DriftDesk$Split", "cellCount", "I", false)
  | 6 => ("DriftDesk$Split", "stepCount", "I", false)
  | _ => ("DriftDesk$Split", "effort", "I", false)
def tyX6 : Nat → FieldType := fun k => match k with
  | 0 => .array .int
  | 1 => .array .long
  | 2 => .array .int
  | 3 => .array .int
  | 4 => .array .long
  | 5 => .int
  | 6 => .int
  | _ => .int
abbrev wsX60 : List Cond := u_ws RX6 TX6 8
theorem nmX6 : ∀ a, a < 8 → ∀ b, b < 8 → a ≠ b → (TX6 a).2.1 ≠ (TX6 b).2.1 := by decide +kernel
theorem tyX6_ok : ∀ k, k < 8 → parseFieldDescriptor (TX6 k).2.2.1 = some (tyX6 k) := by decide +kernel
abbrev cX6_init : ByteArray := prog_8_method_1_code
def yX6_init : MethodName := ⟨RX6, "<init>", "()V"⟩
abbrev cX6_weigh : ByteArray := prog_8_method_2_code
def yX6_weigh : MethodName := ⟨RX6, "weigh", "([JLDriftDesk$Sea;II)V"⟩
abbrev cX6_mostSeen : ByteArray := prog_8_method_3_code
def yX6_mostSeen : MethodName := ⟨RX6, "mostSeen", "()J"⟩
abbrev cX6_givenTo : ByteArray := prog_8_method_4_code
def yX6_givenTo : MethodName := ⟨RX6, "givenTo", "(I)I"⟩
abbrev cX6_listCells : ByteArray := prog_8_method_5_code
def yX6_listCells : MethodName := ⟨RX6, "listCells", "([J)V"⟩
abbrev cX6_listSteps : ByteArray := prog_8_method_6_code
def yX6_listSteps : MethodName := ⟨RX6, "listSteps", "(LDriftDesk$Sea;I)V"⟩
abbrev cX6_mostFrom : ByteArray := prog_8_method_7_code
def yX6_mostFrom : MethodName := ⟨RX6, "mostFrom", "(II)J"⟩
abbrev cX6_shownBy : ByteArray := prog_8_method_8_code
def yX6_shownBy : MethodName := ⟨RX6, "shownBy", "(III)J"⟩
abbrev cX6_leastForMost : ByteArray := prog_8_method_9_code
def yX6_leastForMost : MethodName := ⟨RX6, "leastForMost", "()I"⟩
abbrev cX6_leastGift : ByteArray := prog_8_method_10_code
def yX6_leastGift : MethodName := ⟨RX6, "leastGift", "(II)I"⟩
def RX7 : String := "DriftDesk$Tale"
def TX7 : u_T := fun k => match k with
  | 0 => ("DriftDesk$Tale", "kind", "I", true)
  | 1 => ("DriftDesk$Tale", "firstX", "I", true)
  | 2 => ("DriftDesk$Tale", "firstY", "I", true)
  | 3 => ("DriftDesk$Tale", "hour", "I", true)
  | 4 => ("DriftDesk$Tale", "weight", "I", true)
  | _ => ("DriftDesk$Tale", "marks", "[S", true)
def tyX7 : Nat → FieldType := fun k => match k with
  | 0 => .int
  | 1 => .int
  | 2 => .int
  | 3 => .int
  | 4 => .int
  | _ => .array .short
abbrev wsX70 : List Cond := u_ws RX7 TX7 6
theorem nmX7 : ∀ a, a < 6 → ∀ b, b < 6 → a ≠ b → (TX7 a).2.1 ≠ (TX7 b).2.1 := by decide +kernel
theorem tyX7_ok : ∀ k, k < 6 → parseFieldDescriptor (TX7 k).2.2.1 = some (tyX7 k) := by decide +kernel
abbrev cX7_init : ByteArray := prog_9_method_1_code
def yX7_init : MethodName := ⟨RX7, "<init>", "(IIIII)V"⟩
abbrev cX7_weight : ByteArray := prog_9_method_2_code
def yX7_weight : MethodName := ⟨RX7, "weight", "()I"⟩
abbrev cX7_drift : ByteArray := prog_9_method_3_code
def yX7_drift : MethodName := ⟨RX7, "drift", "(LDriftDesk$Sea;)V"⟩
abbrev cX7_stateAt : ByteArray := prog_9_method_4_code
def yX7_stateAt : MethodName := ⟨RX7, "stateAt", "(I)I"⟩
abbrev cX7_pointAt : ByteArray := prog_9_method_5_code
def yX7_pointAt : MethodName := ⟨RX7, "pointAt", "(I)I"⟩
abbrev cX7_cellAt : ByteArray := prog_9_method_6_code
def yX7_cellAt : MethodName := ⟨RX7, "cellAt", "(I)I"⟩
def RX8 : String := "DriftDesk$Tape"
def TX8 : u_T := fun k => match k with
  | 0 => ("DriftDesk$Tape", "bytes", "[B", true)
  | _ => ("DriftDesk$Tape", "size", "I", false)
def tyX8 : Nat → FieldType := fun k => match k with
  | 0 => .array .byte
  | _ => .int
abbrev wsX80 : List Cond := u_ws RX8 TX8 2
theorem nmX8 : ∀ a, a < 2 → ∀ b, b < 2 → a ≠ b → (TX8 a).2.1 ≠ (TX8 b).2.1 := by decide +kernel
theorem tyX8_ok : ∀ k, k < 2 → parseFieldDescriptor (TX8 k).2.2.1 = some (tyX8 k) := by decide +kernel
abbrev cX8_init : ByteArray := prog_10_method_1_code
def yX8_init : MethodName := ⟨RX8, "<init>", "()V"⟩
abbrev cX8_size : ByteArray := prog_10_method_2_code
def yX8_size : MethodName := ⟨RX8, "size", "()I"⟩
abbrev cX8_hasRoom : ByteArray := prog_10_method_3_code
def yX8_hasRoom : MethodName := ⟨RX8, "hasRoom", "(I)Z"⟩
abbrev cX8_add : ByteArray := prog_10_method_4_code
def yX8_add : MethodName := ⟨RX8, "add", "(I)V"⟩
abbrev cX8_cut : ByteArray := prog_10_method_5_code
def yX8_cut : MethodName := ⟨RX8, "cut", "(I)V"⟩
abbrev cX8_byteAt : ByteArray := prog_10_method_6_code
def yX8_byteAt : MethodName := ⟨RX8, "byteAt", "(I)I"⟩
def RX9 : String := "DriftDesk$Tokens"
def TX9 : u_T := fun k => match k with
  | 0 => ("DriftDesk$Tokens", "tape", "LDriftDesk$Tape;", true)
  | 1 => ("DriftDesk$Tokens", "kind", "I", false)
  | 2 => ("DriftDesk$Tokens", "start", "I", false)
  | 3 => ("DriftDesk$Tokens", "behind", "I", false)
  | _ => ("DriftDesk$Tokens", "value", "I", false)
def tyX9 : Nat → FieldType := fun k => match k with
  | 0 => .object "DriftDesk$Tape"
  | 1 => .int
  | 2 => .int
  | 3 => .int
  | _ => .int
abbrev wsX90 : List Cond := u_ws RX9 TX9 5
theorem nmX9 : ∀ a, a < 5 → ∀ b, b < 5 → a ≠ b → (TX9 a).2.1 ≠ (TX9 b).2.1 := by decide +kernel
theorem tyX9_ok : ∀ k, k < 5 → parseFieldDescriptor (TX9 k).2.2.1 = some (tyX9 k) := by decide +kernel
abbrev cX9_init : ByteArray := prog_11_method_1_code
def yX9_init : MethodName := ⟨RX9, "<init>", "(LDriftDesk$Tape;)V"⟩
abbrev cX9_kind : ByteArray := prog_11_method_2_code
def yX9_kind : MethodName := ⟨RX9, "kind", "()I"⟩
abbrev cX9_start : ByteArray := prog_11_method_3_code
def yX9_start : MethodName := ⟨RX9, "start", "()I"⟩
abbrev cX9_value : ByteArray := prog_11_method_4_code
def yX9_value : MethodName := ⟨RX9, "value", "()I"⟩
abbrev cX9_rewind : ByteArray := prog_11_method_5_code
def yX9_rewind : MethodName := ⟨RX9, "rewind", "()V"⟩
abbrev cX9_readNext : ByteArray := prog_11_method_6_code
def yX9_readNext : MethodName := ⟨RX9, "readNext", "()V"⟩
abbrev cX9_spells : ByteArray := prog_11_method_7_code
def yX9_spells : MethodName := ⟨RX9, "spells", "(Ljava/lang/String;)Z"⟩
abbrev cX9_skipBlanks : ByteArray := prog_11_method_8_code
def yX9_skipBlanks : MethodName := ⟨RX9, "skipBlanks", "()V"⟩
abbrev cX9_readWord : ByteArray := prog_11_method_9_code
def yX9_readWord : MethodName := ⟨RX9, "readWord", "()V"⟩
abbrev cX9_readNumber : ByteArray := prog_11_method_10_code
def yX9_readNumber : MethodName := ⟨RX9, "readNumber", "()V"⟩
abbrev cX9_isBlank : ByteArray := prog_11_method_11_code
def yX9_isBlank : MethodName := ⟨RX9, "isBlank", "(I)Z"⟩
abbrev cX9_isLetter : ByteArray := prog_11_method_12_code
def yX9_isLetter : MethodName := ⟨RX9, "isLetter", "(I)Z"⟩
abbrev cX9_isDigit : ByteArray := prog_11_method_13_code
def yX9_isDigit : MethodName := ⟨RX9, "isDigit", "(I)Z"⟩
def RX10 : String := "DriftDesk"
def TX10 : u_T := fun k => match k with
  | 0 => ("DriftDesk", "tape", "LDriftDesk$Tape;", true)
  | 1 => ("DriftDesk", "reader", "LDriftDesk$SeaReader;", true)
  | 2 => ("DriftDesk", "tales", "Ljava/util/ArrayList;", true)
  | 3 => ("DriftDesk", "proofs", "Ljava/util/ArrayList;", true)
  | 4 => ("DriftDesk", "best", "LDriftDesk$Split;", true)
  | 5 => ("DriftDesk", "cellOdds", "[J", true)
  | 6 => ("DriftDesk", "present", "LDriftDesk$Sea;", false)
  | 7 => ("DriftDesk", "spare", "LDriftDesk$Sea;", false)
  | _ => ("DriftDesk", "standing", "I", false)
def tyX10 : Nat → FieldType := fun k => match k with
  | 0 => .object "DriftDesk$Tape"
  | 1 => .object "DriftDesk$SeaReader"
  | 2 => .object "java/util/ArrayList"
  | 3 => .object "java/util/ArrayList"
  | 4 => .object "DriftDesk$Split"
  | 5 => .array .long
  | 6 => .object "DriftDesk$Sea"
  | 7 => .object "DriftDesk$Sea"
  | _ => .int
abbrev wsX100 : List Cond := u_ws RX10 TX10 9
theorem nmX10 : ∀ a, a < 9 → ∀ b, b < 9 → a ≠ b → (TX10 a).2.1 ≠ (TX10 b).2.1 := by decide +kernel
theorem tyX10_ok : ∀ k, k < 9 → parseFieldDescriptor (TX10 k).2.2.1 = some (tyX10 k) := by decide +kernel
abbrev cX10_init : ByteArray := prog_1_method_1_code
def yX10_init : MethodName := ⟨RX10, "<init>", "()V"⟩
abbrev cX10_feed : ByteArray := prog_1_method_2_code
def yX10_feed : MethodName := ⟨RX10, "feed", "(IIIII)I"⟩
abbrev cX10_end : ByteArray := prog_1_method_3_code
def yX10_end : MethodName := ⟨RX10, "end", "(I)I"⟩
abbrev cX10_sea : ByteArray := prog_1_method_4_code
def yX10_sea : MethodName := ⟨RX10, "sea", "()I"⟩
abbrev cX10_fault : ByteArray := prog_1_method_5_code
def yX10_fault : MethodName := ⟨RX10, "fault", "(I)I"⟩
abbrev cX10_wind : ByteArray := prog_1_method_6_code
def yX10_wind : MethodName := ⟨RX10, "wind", "(IZ)I"⟩
abbrev cX10_stream : ByteArray := prog_1_method_7_code
def yX10_stream : MethodName := ⟨RX10, "stream", "(IIZ)I"⟩
abbrev cX10_miss : ByteArray := prog_1_method_8_code
def yX10_miss : MethodName := ⟨RX10, "miss", "(II)I"⟩
abbrev cX10_land : ByteArray := prog_1_method_9_code
def yX10_land : MethodName := ⟨RX10, "land", "(I)I"⟩
abbrev cX10_tale : ByteArray := prog_1_method_10_code
def yX10_tale : MethodName := ⟨RX10, "tale", "(IIIII)I"⟩
abbrev cX10_place : ByteArray := prog_1_method_11_code
def yX10_place : MethodName := ⟨RX10, "place", "(II)I"⟩
abbrev cX10_state : ByteArray := prog_1_method_12_code
def yX10_state : MethodName := ⟨RX10, "state", "(II)I"⟩
abbrev cX10_search : ByteArray := prog_1_method_13_code
def yX10_search : MethodName := ⟨RX10, "search", "(IIIIIII)I"⟩
abbrev cX10_clue : ByteArray := prog_1_method_14_code
def yX10_clue : MethodName := ⟨RX10, "clue", "(IIIII)I"⟩
abbrev cX10_back : ByteArray := prog_1_method_15_code
def yX10_back : MethodName := ⟨RX10, "back", "(I)Z"⟩
abbrev cX10_odds : ByteArray := prog_1_method_16_code
def yX10_odds : MethodName := ⟨RX10, "odds", "(I)J"⟩
abbrev cX10_share : ByteArray := prog_1_method_17_code
def yX10_share : MethodName := ⟨RX10, "share", "(IIZ)J"⟩
abbrev cX10_likeliest : ByteArray := prog_1_method_18_code
def yX10_likeliest : MethodName := ⟨RX10, "likeliest", "(I)I"⟩
abbrev cX10_seen : ByteArray := prog_1_method_19_code
def yX10_seen : MethodName := ⟨RX10, "seen", "(III)J"⟩
abbrev cX10_split : ByteArray := prog_1_method_20_code
def yX10_split : MethodName := ⟨RX10, "split", "(IIII)I"⟩
abbrev cX10_left : ByteArray := prog_1_method_21_code
def yX10_left : MethodName := ⟨RX10, "left", "()I"⟩
abbrev cX10_tracks : ByteArray := prog_1_method_22_code
def yX10_tracks : MethodName := ⟨RX10, "tracks", "(IIII)I"⟩
abbrev cX10_about : ByteArray := prog_1_method_23_code
def yX10_about : MethodName := ⟨RX10, "about", "(I)I"⟩
abbrev cX10_isTale : ByteArray := prog_1_method_24_code
def yX10_isTale : MethodName := ⟨RX10, "isTale", "(I)Z"⟩
abbrev cX10_hasRoomForProof : ByteArray := prog_1_method_25_code
def yX10_hasRoomForProof : MethodName := ⟨RX10, "hasRoomForProof", "()Z"⟩
abbrev cX10_addProof : ByteArray := prog_1_method_26_code
def yX10_addProof : MethodName := ⟨RX10, "addProof", "(LDriftDesk$Proof;)I"⟩
abbrev cX10_oddsOf : ByteArray := prog_1_method_27_code
def yX10_oddsOf : MethodName := ⟨RX10, "oddsOf", "(LDriftDesk$Tale;)J"⟩
abbrev cX10_allOdds : ByteArray := prog_1_method_28_code
def yX10_allOdds : MethodName := ⟨RX10, "allOdds", "()J"⟩
abbrev cX10_sumByCell : ByteArray := prog_1_method_29_code
def yX10_sumByCell : MethodName := ⟨RX10, "sumByCell", "(IZ)V"⟩
abbrev cX10_within : ByteArray := prog_1_method_30_code
def yX10_within : MethodName := ⟨RX10, "within", "(III)Z"⟩
abbrev cX10_isHour : ByteArray := prog_1_method_31_code
def yX10_isHour : MethodName := ⟨RX10, "isHour", "(I)Z"⟩
abbrev cX10_isMoment : ByteArray := prog_1_method_32_code
def yX10_isMoment : MethodName := ⟨RX10, "isMoment", "(I)Z"⟩
abbrev cX10_isPoint : ByteArray := prog_1_method_33_code
def yX10_isPoint : MethodName := ⟨RX10, "isPoint", "(II)Z"⟩
abbrev cX10_isCell : ByteArray := prog_1_method_34_code
def yX10_isCell : MethodName := ⟨RX10, "isCell", "(I)Z"⟩
abbrev cX10_isKind : ByteArray := prog_1_method_35_code
def yX10_isKind : MethodName := ⟨RX10, "isKind", "(I)Z"⟩
abbrev cX10_isQuarter : ByteArray := prog_1_method_36_code
def yX10_isQuarter : MethodName := ⟨RX10, "isQuarter", "(I)Z"⟩
abbrev cX10_isSpan : ByteArray := prog_1_method_37_code
def yX10_isSpan : MethodName := ⟨RX10, "isSpan", "(II)Z"⟩
abbrev cX10_isMeans : ByteArray := prog_1_method_38_code
def yX10_isMeans : MethodName := ⟨RX10, "isMeans", "(III)Z"⟩
abbrev cX10_cellOf : ByteArray := prog_1_method_39_code
def yX10_cellOf : MethodName := ⟨RX10, "cellOf", "(II)I"⟩
abbrev cX10_quarterOf : ByteArray := prog_1_method_40_code
def yX10_quarterOf : MethodName := ⟨RX10, "quarterOf", "(II)I"⟩
abbrev cX10_greatestDivisor : ByteArray := prog_1_method_41_code
def yX10_greatestDivisor : MethodName := ⟨RX10, "greatestDivisor", "(JJ)J"⟩
def RX11 : String := "DriftDeskModel"
def TX11 : u_T := fun k => match k with
  | 0 => ("DriftDeskModel", "tape", "[B", true)
  | 1 => ("DriftDeskModel", "text", "[B", true)
  | 2 => ("DriftDeskModel", "taped", "I", false)
  | 3 => ("DriftDeskModel", "size", "I", false)
  | 4 => ("DriftDeskModel", "faultKind", "I", false)
  | 5 => ("DriftDeskModel", "faultPlace", "I", false)
  | 6 => ("DriftDeskModel", "at", "I", false)
  | 7 => ("DriftDeskModel", "end", "I", false)
  | 8 => ("DriftDeskModel", "token", "I", false)
  | 9 => ("DriftDeskModel", "number", "I", false)
  | 10 => ("DriftDeskModel", "name", "J", false)
  | 11 => ("DriftDeskModel", "lineMany", "[I", true)
  | 12 => ("DriftDeskModel", "windX", "[I", true)
  | 13 => ("DriftDeskModel", "windY", "[I", true)
  | 14 => ("DriftDeskModel", "streamX", "[I", true)
  | 15 => ("DriftDeskModel", "streamY", "[I", true)
  | 16 => ("DriftDeskModel", "lees", "[I", true)
  | 17 => ("DriftDeskModel", "misses", "[I", true)
  | 18 => ("DriftDeskModel", "isLand", "[Z", true)
  | 19 => ("DriftDeskModel", "hasLee", "[Z", true)
  | 20 => ("DriftDeskModel", "bank", "I", false)
  | 21 => ("DriftDeskModel", "rb", "I", false)
  | 22 => ("DriftDeskModel", "lastAt", "I", false)
  | 23 => ("DriftDeskModel", "tKind", "[I", true)
  | 24 => ("DriftDeskModel", "tX", "[I", true)
  | 25 => ("DriftDeskModel", "tY", "[I", true)
  | 26 => ("DriftDeskModel", "tHour", "[I", true)
  | 27 => ("DriftDeskModel", "tWeight", "[I", true)
  | 28 => ("DriftDeskModel", "tales", "I", false)
  | 29 => ("DriftDeskModel", "px", "I", false)
  | 30 => ("DriftDeskModel", "py", "I", false)
  | 31 => ("DriftDeskModel", "how", "I", false)
  | 32 => ("DriftDeskModel", "pMoment", "[I", true)
  | 33 => ("DriftDeskModel", "pA", "[I", true)
  | 34 => ("DriftDeskModel", "pB", "[I", true)
  | 35 => ("DriftDeskModel", "pC", "[I", true)
  | 36 => ("DriftDeskModel", "pD", "[I", true)
  | 37 => ("DriftDeskModel", "pSort", "[I", true)
  | 38 => ("DriftDeskModel", "pEffort", "[I", true)
  | 39 => ("DriftDeskModel", "isBack", "[Z", true)
  | 40 => ("DriftDeskModel", "proofs", "I", false)
  | 41 => ("DriftDeskModel", "inCell", "[J", true)
  | 42 => ("DriftDeskModel", "all", "J", false)
  | 43 => ("DriftDeskModel", "sees", "[J", true)
  | _ => ("DriftDeskModel", "uses", "[I", true)
def tyX11 : Nat → FieldType := fun k => match k with
  | 0 => .array .byte
  | 1 => .array .byte
  | 2 => .int
  | 3 => .int
  | 4 => .int
  | 5 => .int
  | 6 => .int
  | 7 => .int
  | 8 => .int
  | 9 => .int
  | 10 => .long
  | 11 => .array .int
  | 12 => .array .int
  | 13 => .array .int
  | 14 => .array .int
  | 15 => .array .int
  | 16 => .array .int
  | 17 => .array .int
  | 18 => .array .boolean
  | 19 => .array .boolean
  | 20 => .int
  | 21 => .int
  | 22 => .int
  | 23 => .array .int
  | 24 => .array .int
  | 25 => .array .int
  | 26 => .array .int
  | 27 => .array .int
  | 28 => .int
  | 29 => .int
  | 30 => .int
  | 31 => .int
  | 32 => .array .int
  | 33 => .array .int
  | 34 => .array .int
  | 35 => .array .int
  | 36 => .array .int
  | 37 => .array .int
  | 38 => .array .int
  | 39 => .array .boolean
  | 40 => .int
  | 41 => .array .long
  | 42 => .long
  | 43 => .array .long
  | _ => .array .int
abbrev wsX110 : List Cond := u_ws RX11 TX11 45
theorem nmX11 : ∀ a, a < 45 → ∀ b, b < 45 → a ≠ b → (TX11 a).2.1 ≠ (TX11 b).2.1 := by decide +kernel
theorem tyX11_ok : ∀ k, k < 45 → parseFieldDescriptor (TX11 k).2.2.1 = some (tyX11 k) := by decide +kernel
abbrev cX11_sign : ByteArray := prog_13_method_1_code
def yX11_sign : MethodName := ⟨RX11, "sign", "(I)I"⟩
abbrev cX11_isLetter : ByteArray := prog_13_method_2_code
def yX11_isLetter : MethodName := ⟨RX11, "isLetter", "(I)Z"⟩
abbrev cX11_isDigit : ByteArray := prog_13_method_3_code
def yX11_isDigit : MethodName := ⟨RX11, "isDigit", "(I)Z"⟩
abbrev cX11_fails : ByteArray := prog_13_method_4_code
def yX11_fails : MethodName := ⟨RX11, "fails", "(II)V"⟩
abbrev cX11_isGood : ByteArray := prog_13_method_5_code
def yX11_isGood : MethodName := ⟨RX11, "isGood", "()Z"⟩
abbrev cX11_next : ByteArray := prog_13_method_6_code
def yX11_next : MethodName := ⟨RX11, "next", "()V"⟩
abbrev cX11_readNumber : ByteArray := prog_13_method_7_code
def yX11_readNumber : MethodName := ⟨RX11, "readNumber", "(Z)V"⟩
abbrev cX11_isWord : ByteArray := prog_13_method_8_code
def yX11_isWord : MethodName := ⟨RX11, "isWord", "(J)Z"⟩
abbrev cX11_wrong : ByteArray := prog_13_method_9_code
def yX11_wrong : MethodName := ⟨RX11, "wrong", "()V"⟩
abbrev cX11_init : ByteArray := prog_13_method_10_code
def yX11_init : MethodName := ⟨RX11, "<init>", "()V"⟩
abbrev cX11_clear : ByteArray := prog_13_method_11_code
def yX11_clear : MethodName := ⟨RX11, "clear", "(I)V"⟩
abbrev cX11_sea : ByteArray := prog_13_method_12_code
def yX11_sea : MethodName := ⟨RX11, "sea", "()I"⟩
abbrev cX11_numeral : ByteArray := prog_13_method_13_code
def yX11_numeral : MethodName := ⟨RX11, "numeral", "(II)I"⟩
abbrev cX11_twice : ByteArray := prog_13_method_14_code
def yX11_twice : MethodName := ⟨RX11, "twice", "(Z)V"⟩
abbrev cX11_readLine : ByteArray := prog_13_method_15_code
def yX11_readLine : MethodName := ⟨RX11, "readLine", "()V"⟩
abbrev cX11_readWind : ByteArray := prog_13_method_16_code
def yX11_readWind : MethodName := ⟨RX11, "readWind", "()V"⟩
abbrev cX11_readStream : ByteArray := prog_13_method_17_code
def yX11_readStream : MethodName := ⟨RX11, "readStream", "()V"⟩
abbrev cX11_readLee : ByteArray := prog_13_method_18_code
def yX11_readLee : MethodName := ⟨RX11, "readLee", "()V"⟩
abbrev cX11_readLand : ByteArray := prog_13_method_19_code
def yX11_readLand : MethodName := ⟨RX11, "readLand", "()V"⟩
abbrev cX11_readMiss : ByteArray := prog_13_method_20_code
def yX11_readMiss : MethodName := ⟨RX11, "readMiss", "()V"⟩
abbrev cX11_fault : ByteArray := prog_13_method_21_code
def yX11_fault : MethodName := ⟨RX11, "fault", "(I)I"⟩
abbrev cX11_isHour : ByteArray := prog_13_method_22_code
def yX11_isHour : MethodName := ⟨RX11, "isHour", "(I)Z"⟩
abbrev cX11_windOf : ByteArray := prog_13_method_23_code
def yX11_windOf : MethodName := ⟨RX11, "windOf", "(IZ)I"⟩
abbrev cX11_streamOf : ByteArray := prog_13_method_24_code
def yX11_streamOf : MethodName := ⟨RX11, "streamOf", "(IIZ)I"⟩
abbrev cX11_wind : ByteArray := prog_13_method_25_code
def yX11_wind : MethodName := ⟨RX11, "wind", "(IZ)I"⟩
abbrev cX11_stream : ByteArray := prog_13_method_26_code
def yX11_stream : MethodName := ⟨RX11, "stream", "(IIZ)I"⟩
abbrev cX11_isSort : ByteArray := prog_13_method_27_code
def yX11_isSort : MethodName := ⟨RX11, "isSort", "(I)Z"⟩
abbrev cX11_missOf : ByteArray := prog_13_method_28_code
def yX11_missOf : MethodName := ⟨RX11, "missOf", "(II)I"⟩
abbrev cX11_miss : ByteArray := prog_13_method_29_code
def yX11_miss : MethodName := ⟨RX11, "miss", "(II)I"⟩
abbrev cX11_land : ByteArray := prog_13_method_30_code
def yX11_land : MethodName := ⟨RX11, "land", "(I)I"⟩
abbrev cX11_isPoint : ByteArray := prog_13_method_31_code
def yX11_isPoint : MethodName := ⟨RX11, "isPoint", "(I)Z"⟩
abbrev cX11_isMoment : ByteArray := prog_13_method_32_code
def yX11_isMoment : MethodName := ⟨RX11, "isMoment", "(I)Z"⟩
abbrev cX11_tale : ByteArray := prog_13_method_33_code
def yX11_tale : MethodName := ⟨RX11, "tale", "(IIIII)I"⟩
abbrev cX11_isOnLand : ByteArray := prog_13_method_34_code
def yX11_isOnLand : MethodName := ⟨RX11, "isOnLand", "()Z"⟩
abbrev cX11_cellHere : ByteArray := prog_13_method_35_code
def yX11_cellHere : MethodName := ⟨RX11, "cellHere", "()I"⟩
abbrev cX11_drift : ByteArray := prog_13_method_36_code
def yX11_drift : MethodName := ⟨RX11, "drift", "(II)V"⟩
abbrev cX11_isTale : ByteArray := prog_13_method_37_code
def yX11_isTale : MethodName := ⟨RX11, "isTale", "(I)Z"⟩
abbrev cX11_place : ByteArray := prog_13_method_38_code
def yX11_place : MethodName := ⟨RX11, "place", "(II)I"⟩
abbrev cX11_state : ByteArray := prog_13_method_39_code
def yX11_state : MethodName := ⟨RX11, "state", "(II)I"⟩
abbrev cX11_standing : ByteArray := prog_13_method_40_code
def yX11_standing : MethodName := ⟨RX11, "standing", "()I"⟩
abbrev cX11_prove : ByteArray := prog_13_method_41_code
def yX11_prove : MethodName := ⟨RX11, "prove", "(IIIIIII)I"⟩
abbrev cX11_isFull : ByteArray := prog_13_method_42_code
def yX11_isFull : MethodName := ⟨RX11, "isFull", "()Z"⟩
abbrev cX11_search : ByteArray := prog_13_method_43_code
def yX11_search : MethodName := ⟨RX11, "search", "(IIIIIII)I"⟩
abbrev cX11_clue : ByteArray := prog_13_method_44_code
def yX11_clue : MethodName := ⟨RX11, "clue", "(IIIII)I"⟩
abbrev cX11_back : ByteArray := prog_13_method_45_code
def yX11_back : MethodName := ⟨RX11, "back", "(I)Z"⟩
abbrev cX11_off : ByteArray := prog_13_method_46_code
def yX11_off : MethodName := ⟨RX11, "off", "(II)I"⟩
abbrev cX11_weighs : ByteArray := prog_13_method_47_code
def yX11_weighs : MethodName := ⟨RX11, "weighs", "(II)I"⟩
abbrev cX11_oddsOf : ByteArray := prog_13_method_48_code
def yX11_oddsOf : MethodName := ⟨RX11, "oddsOf", "(I)J"⟩
abbrev cX11_odds : ByteArray := prog_13_method_49_code
def yX11_odds : MethodName := ⟨RX11, "odds", "(I)J"⟩
abbrev cX11_sumUp : ByteArray := prog_13_method_50_code
def yX11_sumUp : MethodName := ⟨RX11, "sumUp", "(IZ)V"⟩
abbrev cX11_divisor : ByteArray := prog_13_method_51_code
def yX11_divisor : MethodName := ⟨RX11, "divisor", "(JJ)J"⟩
abbrev cX11_share : ByteArray := prog_13_method_52_code
def yX11_share : MethodName := ⟨RX11, "share", "(IIZ)J"⟩
abbrev cX11_likeliest : ByteArray := prog_13_method_53_code
def yX11_likeliest : MethodName := ⟨RX11, "likeliest", "(I)I"⟩
abbrev cX11_spot : ByteArray := prog_13_method_54_code
def yX11_spot : MethodName := ⟨RX11, "spot", "(II)I"⟩
abbrev cX11_gain : ByteArray := prog_13_method_55_code
def yX11_gain : MethodName := ⟨RX11, "gain", "(III)J"⟩
abbrev cX11_canSplit : ByteArray := prog_13_method_56_code
def yX11_canSplit : MethodName := ⟨RX11, "canSplit", "(III)Z"⟩
abbrev cX11_give : ByteArray := prog_13_method_57_code
def yX11_give : MethodName := ⟨RX11, "give", "(II)V"⟩
abbrev cX11_seen : ByteArray := prog_13_method_58_code
def yX11_seen : MethodName := ⟨RX11, "seen", "(III)J"⟩
abbrev cX11_split : ByteArray := prog_13_method_59_code
def yX11_split : MethodName := ⟨RX11, "split", "(IIII)I"⟩
abbrev cX11_left : ByteArray := prog_13_method_60_code
def yX11_left : MethodName := ⟨RX11, "left", "()I"⟩
abbrev cX11_tracks : ByteArray := prog_13_method_61_code
def yX11_tracks : MethodName := ⟨RX11, "tracks", "(IIII)I"⟩
abbrev cX11_about : ByteArray := prog_13_method_62_code
def yX11_about : MethodName := ⟨RX11, "about", "(I)I"⟩
abbrev cX11_feed : ByteArray := prog_13_method_63_code
def yX11_feed : MethodName := ⟨RX11, "feed", "(IIIII)I"⟩
abbrev cX11_end : ByteArray := prog_13_method_64_code
def yX11_end : MethodName := ⟨RX11, "end", "(I)I"⟩
def RJx145de : String := "java/io/Serializable"
def TJx145de : u_T := fun k => match k with
  | _ => ("", "", "", false)
def tyJx145de : Nat → FieldType := fun k => match k with
  | _ => .int
abbrev wsJx145de0 : List Cond := u_ws RJx145de TJx145de 0
theorem nmJx145de : ∀ a, a < 0 → ∀ b, b < 0 → a ≠ b → (TJx145de a).2.1 ≠ (TJx145de b).2.1 := by decide +kernel
theorem tyJx145de_ok : ∀ k, k < 0 → parseFieldDescriptor (TJx145de k).2.2.1 = some (tyJx145de k) := by decide +kernel
def RJx8e188 : String := "java/lang/Cloneable"
def TJx8e188 : u_T := fun k => match k with
  | _ => ("", "", "", false)
def tyJx8e188 : Nat → FieldType := fun k => match k with
  | _ => .int
abbrev wsJx8e1880 : List Cond := u_ws RJx8e188 TJx8e188 0
theorem nmJx8e188 : ∀ a, a < 0 → ∀ b, b < 0 → a ≠ b → (TJx8e188 a).2.1 ≠ (TJx8e188 b).2.1 := by decide +kernel
theorem tyJx8e188_ok : ∀ k, k < 0 → parseFieldDescriptor (TJx8e188 k).2.2.1 = some (tyJx8e188 k) := by decide +kernel
def RJxab1ab : String := "java/lang/Iterable"
def TJxab1ab : u_T := fun k => match k with
  | _ => ("", "", "", false)
def tyJxab1ab : Nat → FieldType := fun k => match k with
  | _ => .int
abbrev wsJxab1ab0 : List Cond := u_ws RJxab1ab TJxab1ab 0
theorem nmJxab1ab : ∀ a, a < 0 → ∀ b, b < 0 → a ≠ b → (TJxab1ab a).2.1 ≠ (TJxab1ab b).2.1 := by decide +kernel
theorem tyJxab1ab_ok : ∀ k, k < 0 → parseFieldDescriptor (TJxab1ab k).2.2.1 = some (tyJxab1ab k) := by decide +kernel
def RJ9 : String := "java/lang/Math"
def TJ9 : u_T := fun k => match k with
  | _ => ("", "", "", false)
def tyJ9 : Nat → FieldType := fun k => match k with
  | _ => .int
abbrev wsJ90 : List Cond := u_ws RJ9 TJ9 0
theorem nmJ9 : ∀ a, a < 0 → ∀ b, b < 0 → a ≠ b → (TJ9 a).2.1 ≠ (TJ9 b).2.1 := by decide +kernel
theorem tyJ9_ok : ∀ k, k < 0 → parseFieldDescriptor (TJ9 k).2.2.1 = some (tyJ9 k) := by decide +kernel
abbrev cJ9_abs_0f7a4 : ByteArray := prog_17_method_59_code
def yJ9_abs_0f7a4 : MethodName := ⟨RJ9, "abs", "(I)I"⟩
abbrev cJ9_max_7cf53 : ByteArray := prog_17_method_65_code
def yJ9_max_7cf53 : MethodName := ⟨RJ9, "max", "(II)I"⟩
abbrev cJ9_max_f86c9 : ByteArray := prog_17_method_66_code
def yJ9_max_f86c9 : MethodName := ⟨RJ9, "max", "(JJ)J"⟩
abbrev cJ9_min_7cf53 : ByteArray := prog_17_method_69_code
def yJ9_min_7cf53 : MethodName := ⟨RJ9, "min", "(II)I"⟩
def RJ0 : String := "java/lang/String"
def TJ0 : u_T := fun k => match k with
  | _ => ("", "", "", false)
def tyJ0 : Nat → FieldType := fun k => match k with
  | _ => .int
abbrev wsJ00 : List Cond := u_ws RJ0 TJ0 0
theorem nmJ0 : ∀ a, a < 0 → ∀ b, b < 0 → a ≠ b → (TJ0 a).2.1 ≠ (TJ0 b).2.1 := by decide +kernel
theorem tyJ0_ok : ∀ k, k < 0 → parseFieldDescriptor (TJ0 k).2.2.1 = some (tyJ0 k) := by decide +kernel
abbrev cJ0_length_8abf5 : ByteArray := prog_18_method_54_code
def yJ0_length_8abf5 : MethodName := ⟨RJ0, "length", "()I"⟩
abbrev cJ0_charAt_5068e : ByteArray := prog_18_method_56_code
def yJ0_charAt_5068e : MethodName := ⟨RJ0, "charAt", "(I)C"⟩
abbrev cJ0_coder_7d493 : ByteArray := prog_18_method_152_code
def yJ0_coder_7d493 : MethodName := ⟨RJ0, "coder", "()B"⟩
abbrev cJ0_isLatin1_aae02 : ByteArray := prog_18_method_154_code
def yJ0_isLatin1_aae02 : MethodName := ⟨RJ0, "isLatin1", "()Z"⟩
abbrev cJ0_checkIndex_df160 : ByteArray := prog_18_method_155_code
def yJ0_checkIndex_df160 : MethodName := ⟨RJ0, "checkIndex", "(II)V"⟩
def RJ1 : String := "java/lang/StringLatin1"
def TJ1 : u_T := fun k => match k with
  | _ => ("", "", "", false)
def tyJ1 : Nat → FieldType := fun k => match k with
  | _ => .int
abbrev wsJ10 : List Cond := u_ws RJ1 TJ1 0
theorem nmJ1 : ∀ a, a < 0 → ∀ b, b < 0 → a ≠ b → (TJ1 a).2.1 ≠ (TJ1 b).2.1 := by decide +kernel
theorem tyJ1_ok : ∀ k, k < 0 → parseFieldDescriptor (TJ1 k).2.2.1 = some (tyJ1 k) := by decide +kernel
abbrev cJ1_charAt_3b067 : ByteArray := prog_19_method_2_code
def yJ1_charAt_3b067 : MethodName := ⟨RJ1, "charAt", "([BI)C"⟩
def RJ2 : String := "java/lang/StringUTF16"
def TJ2 : u_T := fun k => match k with
  | _ => ("", "", "", false)
def tyJ2 : Nat → FieldType := fun k => match k with
  | _ => .int
abbrev wsJ20 : List Cond := u_ws RJ2 TJ2 0
theorem nmJ2 : ∀ a, a < 0 → ∀ b, b < 0 → a ≠ b → (TJ2 a).2.1 ≠ (TJ2 b).2.1 := by decide +kernel
theorem tyJ2_ok : ∀ k, k < 0 → parseFieldDescriptor (TJ2 k).2.2.1 = some (tyJ2 k) := by decide +kernel
abbrev cJ2_getChar_3b067 : ByteArray := prog_20_method_5_code
def yJ2_getChar_3b067 : MethodName := ⟨RJ2, "getChar", "([BI)C"⟩
abbrev cJ2_length_9d52b : ByteArray := prog_20_method_6_code
def yJ2_length_9d52b : MethodName := ⟨RJ2, "length", "([B)I"⟩
abbrev cJ2_charAt_3b067 : ByteArray := prog_20_method_83_code
def yJ2_charAt_3b067 : MethodName := ⟨RJ2, "charAt", "([BI)C"⟩
abbrev cJ2_checkIndex_2214a : ByteArray := prog_20_method_91_code
def yJ2_checkIndex_2214a : MethodName := ⟨RJ2, "checkIndex", "(I[B)V"⟩
def RJ10 : String := "java/lang/System"
def TJ10 : u_T := fun k => match k with
  | _ => ("", "", "", false)
def tyJ10 : Nat → FieldType := fun k => match k with
  | _ => .int
abbrev wsJ100 : List Cond := u_ws RJ10 TJ10 0
theorem nmJ10 : ∀ a, a < 0 → ∀ b, b < 0 → a ≠ b → (TJ10 a).2.1 ≠ (TJ10 b).2.1 := by decide +kernel
theorem tyJ10_ok : ∀ k, k < 0 → parseFieldDescriptor (TJ10 k).2.2.1 = some (tyJ10 k) := by decide +kernel
def RJxa1e45 : String := "java/util/AbstractCollection"
def TJxa1e45 : u_T := fun k => match k with
  | _ => ("", "", "", false)
def tyJxa1e45 : Nat → FieldType := fun k => match k with
  | _ => .int
abbrev wsJxa1e450 : List Cond := u_ws RJxa1e45 TJxa1e45 0
theorem nmJxa1e45 : ∀ a, a < 0 → ∀ b, b < 0 → a ≠ b → (TJxa1e45 a).2.1 ≠ (TJxa1e45 b).2.1 := by decide +kernel
theorem tyJxa1e45_ok : ∀ k, k < 0 → parseFieldDescriptor (TJxa1e45 k).2.2.1 = some (tyJxa1e45 k) := by decide +kernel
abbrev cJxa1e45_init_da8c8 : ByteArray := prog_22_method_1_code
def yJxa1e45_init_da8c8 : MethodName := ⟨RJxa1e45, "<init>", "()V"⟩
def RJxc12de : String := "java/util/AbstractList"
def TJxc12de : u_T := fun k => match k with
  | _ => ("", "", "", false)
def tyJxc12de : Nat → FieldType := fun k => match k with
  | _ => .int
abbrev wsJxc12de0 : List Cond := u_ws RJxc12de TJxc12de 0
theorem nmJxc12de : ∀ a, a < 0 → ∀ b, b < 0 → a ≠ b → (TJxc12de a).2.1 ≠ (TJxc12de b).2.1 := by decide +kernel
theorem tyJxc12de_ok : ∀ k, k < 0 → parseFieldDescriptor (TJxc12de k).2.2.1 = some (tyJxc12de k) := by decide +kernel
abbrev cJxc12de_init_da8c8 : ByteArray := prog_23_method_1_code
def yJxc12de_init_da8c8 : MethodName := ⟨RJxc12de, "<init>", "()V"⟩
def RJx4a65c : String := "java/util/ArrayList"
def TJx4a65c : u_T := fun k => match k with
  | 0 => ("java/util/AbstractList", "modCount", "I", false)
  | 1 => ("java/util/ArrayList", "elementData", "[Ljava/lang/Object;", false)
  | _ => ("java/util/ArrayList", "size", "I", false)
def tyJx4a65c : Nat → FieldType := fun k => match k with
  | 0 => .int
  | 1 => .array (.object "java/lang/Object")
  | _ => .int
abbrev wsJx4a65c0 : List Cond := u_ws RJx4a65c TJx4a65c 3
theorem nmJx4a65c : ∀ a, a < 3 → ∀ b, b < 3 → a ≠ b → (TJx4a65c a).2.1 ≠ (TJx4a65c b).2.1 := by decide +kernel
theorem tyJx4a65c_ok : ∀ k, k < 3 → parseFieldDescriptor (TJx4a65c k).2.2.1 = some (tyJx4a65c k) := by decide +kernel
abbrev cJx4a65c_init_da8c8 : ByteArray := prog_24_method_2_code
def yJx4a65c_init_da8c8 : MethodName := ⟨RJx4a65c, "<init>", "()V"⟩
abbrev cJx4a65c_grow_92f84 : ByteArray := prog_24_method_6_code
def yJx4a65c_grow_92f84 : MethodName := ⟨RJx4a65c, "grow", "(I)[Ljava/lang/Object;"⟩
abbrev cJx4a65c_grow_d5877 : ByteArray := prog_24_method_7_code
def yJx4a65c_grow_d5877 : MethodName := ⟨RJx4a65c, "grow", "()[Ljava/lang/Object;"⟩
abbrev cJx4a65c_size_8abf5 : ByteArray := prog_24_method_8_code
def yJx4a65c_size_8abf5 : MethodName := ⟨RJx4a65c, "size", "()I"⟩
abbrev cJx4a65c_elementData_915e3 : ByteArray := prog_24_method_18_code
def yJx4a65c_elementData_915e3 : MethodName := ⟨RJx4a65c, "elementData", "(I)Ljava/lang/Object;"⟩
abbrev cJx4a65c_get_915e3 : ByteArray := prog_24_method_20_code
def yJx4a65c_get_915e3 : MethodName := ⟨RJx4a65c, "get", "(I)Ljava/lang/Object;"⟩
abbrev cJx4a65c_add_72be8 : ByteArray := prog_24_method_24_code
def yJx4a65c_add_72be8 : MethodName := ⟨RJx4a65c, "add", "(Ljava/lang/Object;[Ljava/lang/Object;I)V"⟩
abbrev cJx4a65c_add_9ea2d : ByteArray := prog_24_method_25_code
def yJx4a65c_add_9ea2d : MethodName := ⟨RJx4a65c, "add", "(Ljava/lang/Object;)Z"⟩
def RJ7 : String := "java/util/Arrays"
def TJ7 : u_T := fun k => match k with
  | _ => ("", "", "", false)
def tyJ7 : Nat → FieldType := fun k => match k with
  | _ => .int
abbrev wsJ70 : List Cond := u_ws RJ7 TJ7 0
theorem nmJ7 : ∀ a, a < 0 → ∀ b, b < 0 → a ≠ b → (TJ7 a).2.1 ≠ (TJ7 b).2.1 := by decide +kernel
theorem tyJ7_ok : ∀ k, k < 0 → parseFieldDescriptor (TJ7 k).2.2.1 = some (tyJ7 k) := by decide +kernel
abbrev cJ7_copyOf_1904c : ByteArray := prog_25_method_119_code
def yJ7_copyOf_1904c : MethodName := ⟨RJ7, "copyOf", "([Ljava/lang/Object;I)[Ljava/lang/Object;"⟩
abbrev cJ7_copyOf_6403c : ByteArray := prog_25_method_120_code
def yJ7_copyOf_6403c : MethodName := ⟨RJ7, "copyOf", "([Ljava/lang/Object;ILjava/lang/Class;)[Ljava/lang/Object;"⟩
def RJx5ef63 : String := "java/util/Collection"
def TJx5ef63 : u_T := fun k => match k with
  | _ => ("", "", "", false)
def tyJx5ef63 : Nat → FieldType := fun k => match k with
  | _ => .int
abbrev wsJx5ef630 : List Cond := u_ws RJx5ef63 TJx5ef63 0
theorem nmJx5ef63 : ∀ a, a < 0 → ∀ b, b < 0 → a ≠ b → (TJx5ef63 a).2.1 ≠ (TJx5ef63 b).2.1 := by decide +kernel
theorem tyJx5ef63_ok : ∀ k, k < 0 → parseFieldDescriptor (TJx5ef63 k).2.2.1 = some (tyJx5ef63 k) := by decide +kernel
def RJxbd725 : String := "java/util/List"
def TJxbd725 : u_T := fun k => match k with
  | _ => ("", "", "", false)
def tyJxbd725 : Nat → FieldType := fun k => match k with
  | _ => .int
abbrev wsJxbd7250 : List Cond := u_ws RJxbd725 TJxbd725 0
theorem nmJxbd725 : ∀ a, a < 0 → ∀ b, b < 0 → a ≠ b → (TJxbd725 a).2.1 ≠ (TJxbd725 b).2.1 := by decide +kernel
theorem tyJxbd725_ok : ∀ k, k < 0 → parseFieldDescriptor (TJxbd725 k).2.2.1 = some (tyJxbd725 k) := by decide +kernel
def RJ15 : String := "java/util/Objects"
def TJ15 : u_T := fun k => match k with
  | _ => ("", "", "", false)
def tyJ15 : Nat → FieldType := fun k => match k with
  | _ => .int
abbrev wsJ150 : List Cond := u_ws RJ15 TJ15 0
theorem nmJ15 : ∀ a, a < 0 → ∀ b, b < 0 → a ≠ b → (TJ15 a).2.1 ≠ (TJ15 b).2.1 := by decide +kernel
theorem tyJ15_ok : ∀ k, k < 0 → parseFieldDescriptor (TJ15 k).2.2.1 = some (tyJ15 k) := by decide +kernel
abbrev cJ15_checkIndex_7cf53 : ByteArray := prog_28_method_17_code
def yJ15_checkIndex_7cf53 : MethodName := ⟨RJ15, "checkIndex", "(II)I"⟩
def RJxf0a74 : String := "java/util/RandomAccess"
def TJxf0a74 : u_T := fun k => match k with
  | _ => ("", "", "", false)
def tyJxf0a74 : Nat → FieldType := fun k => match k with
  | _ => .int
abbrev wsJxf0a740 : List Cond := u_ws RJxf0a74 TJxf0a74 0
theorem nmJxf0a74 : ∀ a, a < 0 → ∀ b, b < 0 → a ≠ b → (TJxf0a74 a).2.1 ≠ (TJxf0a74 b).2.1 := by decide +kernel
theorem tyJxf0a74_ok : ∀ k, k < 0 → parseFieldDescriptor (TJxf0a74 k).2.2.1 = some (tyJxf0a74 k) := by decide +kernel
def RJxa66e6 : String := "java/util/SequencedCollection"
def TJxa66e6 : u_T := fun k => match k with
  | _ => ("", "", "", false)
def tyJxa66e6 : Nat → FieldType := fun k => match k with
  | _ => .int
abbrev wsJxa66e60 : List Cond := u_ws RJxa66e6 TJxa66e6 0
theorem nmJxa66e6 : ∀ a, a < 0 → ∀ b, b < 0 → a ≠ b → (TJxa66e6 a).2.1 ≠ (TJxa66e6 b).2.1 := by decide +kernel
theorem tyJxa66e6_ok : ∀ k, k < 0 → parseFieldDescriptor (TJxa66e6 k).2.2.1 = some (tyJxa66e6 k) := by decide +kernel
def RJ8 : String := "jdk/internal/util/ArraysSupport"
def TJ8 : u_T := fun k => match k with
  | _ => ("", "", "", false)
def tyJ8 : Nat → FieldType := fun k => match k with
  | _ => .int
abbrev wsJ80 : List Cond := u_ws RJ8 TJ8 0
theorem nmJ8 : ∀ a, a < 0 → ∀ b, b < 0 → a ≠ b → (TJ8 a).2.1 ≠ (TJ8 b).2.1 := by decide +kernel
theorem tyJ8_ok : ∀ k, k < 0 → parseFieldDescriptor (TJ8 k).2.2.1 = some (tyJ8 k) := by decide +kernel
abbrev cJ8_newLength_cabcc : ByteArray := prog_31_method_27_code
def yJ8_newLength_cabcc : MethodName := ⟨RJ8, "newLength", "(III)I"⟩
abbrev cJ8_hugeLength_7cf53 : ByteArray := prog_31_method_28_code
def yJ8_hugeLength_7cf53 : MethodName := ⟨RJ8, "hugeLength", "(II)I"⟩
def RJ3 : String := "jdk/internal/util/Preconditions"
def TJ3 : u_T := fun k => match k with
  | _ => ("", "", "", false)
def tyJ3 : Nat → FieldType := fun k => match k with
  | _ => .int
abbrev wsJ30 : List Cond := u_ws RJ3 TJ3 0
theorem nmJ3 : ∀ a, a < 0 → ∀ b, b < 0 → a ≠ b → (TJ3 a).2.1 ≠ (TJ3 b).2.1 := by decide +kernel
theorem tyJ3_ok : ∀ k, k < 0 → parseFieldDescriptor (TJ3 k).2.2.1 = some (tyJ3 k) := by decide +kernel
abbrev cJ3_checkIndex_8e157 : ByteArray := prog_32_method_11_code
def yJ3_checkIndex_8e157 : MethodName := ⟨RJ3, "checkIndex", "(IILjava/util/function/BiFunction;)I"⟩
def RL : String := "DriftDeskLaw"
abbrev cL_law : ByteArray := code
def yL_law : MethodName := ⟨RL, "law", "([I)Z"⟩
def wsL_law_r1 : List Cond := [Cond.classLink RL 7 RX10, Cond.instantiable RX10 9, Cond.initialized RX10, Cond.classLink RL 10 RX11, Cond.instantiable RX11 45, Cond.initialized RX11, Cond.methodLink RL 9 yX10_init, Cond.instanceMethod yX10_init, Cond.code yX10_init cX10_init 1 none, Cond.methodLink RX10 1 objectInit, Cond.instanceMethod objectInit, Cond.code objectInit ⟨#[0xb1]⟩ 1 none, Cond.classLink RX10 7 RX8, Cond.instantiable RX8 2, Cond.initialized RX8, Cond.fieldLink RX10 10 "DriftDesk" "tape" "LDriftDesk$Tape;", Cond.classLink RX10 16 RX4, Cond.instantiable RX4 4, Cond.initialized RX4, Cond.fieldLink RX10 21 "DriftDesk" "reader" "LDriftDesk$SeaReader;", Cond.classLink RX10 25 RJx4a65c, Cond.instantiable RJx4a65c 3, Cond.initialized RJx4a65c, Cond.fieldLink RX10 28 "DriftDesk" "tales" "Ljava/util/ArrayList;"]
def wsL_law_r2 : List Cond := [Cond.fieldLink RX10 32 "DriftDesk" "proofs" "Ljava/util/ArrayList;", Cond.classLink RX10 35 RX6, Cond.instantiable RX6 8, Cond.initialized RX6, Cond.fieldLink RX10 38 "DriftDesk" "best" "LDriftDesk$Split;", Cond.arrayClass .long, Cond.fieldLink RX10 42 "DriftDesk" "cellOdds" "[J", Cond.classLink RX10 46 RX3, Cond.instantiable RX3 6, Cond.initialized RX3, Cond.fieldLink RX10 49 "DriftDesk" "present" "LDriftDesk$Sea;", Cond.fieldLink RX10 53 "DriftDesk" "spare" "LDriftDesk$Sea;", Cond.instanceMethod yX8_init, Cond.code yX8_init cX8_init 1 none, Cond.methodLink RX8 1 objectInit, Cond.arrayClass .byte, Cond.fieldLink RX8 9 "DriftDesk$Tape" "bytes" "[B", Cond.methodLink RX10 18 yX4_init, Cond.instanceMethod yX4_init, Cond.code yX4_init cX4_init 2 none, Cond.methodLink RX4 3 objectInit, Cond.arrayClass .int, Cond.fieldLink RX4 11 "DriftDesk$SeaReader" "numbers" "[I", Cond.fieldLink RX4 15 "DriftDesk$SeaReader" "faultAt" "I"]
def wsL_law_r3 : List Cond := [Cond.classLink RX4 19 RX9, Cond.instantiable RX9 5, Cond.initialized RX9, Cond.fieldLink RX4 24 "DriftDesk$SeaReader" "tokens" "LDriftDesk$Tokens;", Cond.methodLink RX4 21 yX9_init, Cond.instanceMethod yX9_init, Cond.code yX9_init cX9_init 2 none, Cond.methodLink RX9 1 objectInit, Cond.fieldLink RX9 7 "DriftDesk$Tokens" "tape" "LDriftDesk$Tape;", Cond.methodLink RX10 27 yJx4a65c_init_da8c8, Cond.instanceMethod yJx4a65c_init_da8c8, Cond.code yJx4a65c_init_da8c8 cJx4a65c_init_da8c8 1 none, Cond.fieldLink RJx4a65c 39 "java/util/ArrayList" "DEFAULTCAPACITY_EMPTY_ELEMENTDATA" "[Ljava/lang/Object;", Cond.fieldLink RJx4a65c 9 "java/util/ArrayList" "elementData" "[Ljava/lang/Object;", Cond.methodLink RJx4a65c 1 yJxc12de_init_da8c8, Cond.instanceMethod yJxc12de_init_da8c8, Cond.initialized RJxc12de, Cond.code yJxc12de_init_da8c8 cJxc12de_init_da8c8 1 none, Cond.fieldLink RJxc12de 7 "java/util/AbstractList" "modCount" "I", Cond.methodLink RJxc12de 1 yJxa1e45_init_da8c8, Cond.instanceMethod yJxa1e45_init_da8c8, Cond.initialized RJxa1e45, Cond.code yJxa1e45_init_da8c8 cJxa1e45_init_da8c8 1 none, Cond.methodLink RJxa1e45 1 objectInit]
def wsL_law_r4 : List Cond := [Cond.instanceMethod yX6_init, Cond.code yX6_init cX6_init 1 none, Cond.methodLink RX6 3 objectInit, Cond.fieldLink RX6 9 "DriftDesk$Split" "cells" "[I", Cond.fieldLink RX6 15 "DriftDesk$Split" "odds" "[J", Cond.fieldLink RX6 19 "DriftDesk$Split" "steps" "[I", Cond.fieldLink RX6 22 "DriftDesk$Split" "found" "[I", Cond.fieldLink RX6 25 "DriftDesk$Split" "most" "[J", Cond.methodLink RX10 48 yX3_init, Cond.instanceMethod yX3_init, Cond.code yX3_init cX3_init 2 none, Cond.methodLink RX3 3 objectInit, Cond.classLink RX3 9 RX1, Cond.instantiable RX1 3, Cond.initialized RX1, Cond.fieldLink RX3 12 "DriftDesk$Sea" "winds" "LDriftDesk$Flow;", Cond.fieldLink RX3 18 "DriftDesk$Sea" "streams" "[LDriftDesk$Flow;", Cond.fieldLink RX3 22 "DriftDesk$Sea" "lees" "[I", Cond.arrayClass .boolean, Cond.fieldLink RX3 26 "DriftDesk$Sea" "lands" "[Z", Cond.fieldLink RX3 30 "DriftDesk$Sea" "misses" "[I", Cond.instanceMethod yX1_init, Cond.code yX1_init cX1_init 1 none, Cond.methodLink RX1 3 objectInit]
def wsL_law_r5 : List Cond := [Cond.fieldLink RX1 9 "DriftDesk$Flow" "stepsX" "[B", Cond.fieldLink RX1 15 "DriftDesk$Flow" "stepsY" "[B", Cond.fieldLink RX1 18 "DriftDesk$Flow" "told" "[Z", Cond.methodLink RL 12 yX11_init, Cond.instanceMethod yX11_init, Cond.code yX11_init cX11_init 1 none, Cond.methodLink RX11 52 objectInit, Cond.fieldLink RX11 58 "DriftDeskModel" "tape" "[B", Cond.fieldLink RX11 7 "DriftDeskModel" "text" "[B", Cond.fieldLink RX11 14 "DriftDeskModel" "faultPlace" "I", Cond.fieldLink RX11 61 "DriftDeskModel" "lineMany" "[I", Cond.fieldLink RX11 65 "DriftDeskModel" "windX" "[I", Cond.fieldLink RX11 68 "DriftDeskModel" "windY" "[I", Cond.fieldLink RX11 71 "DriftDeskModel" "streamX" "[I", Cond.fieldLink RX11 74 "DriftDeskModel" "streamY" "[I", Cond.fieldLink RX11 77 "DriftDeskModel" "lees" "[I", Cond.fieldLink RX11 80 "DriftDeskModel" "misses" "[I", Cond.fieldLink RX11 83 "DriftDeskModel" "isLand" "[Z", Cond.fieldLink RX11 87 "DriftDeskModel" "hasLee" "[Z", Cond.fieldLink RX11 90 "DriftDeskModel" "tKind" "[I", Cond.fieldLink RX11 93 "DriftDeskModel" "tX" "[I", Cond.fieldLink RX11 96 "DriftDeskModel" "tY" "[I", Cond.fieldLink RX11 99 "DriftDeskModel" "tHour" "[I", Cond.fieldLink RX11 102 "DriftDeskModel" "tWeight" "[I"]
def wsL_law_r6 : List Cond := [Cond.fieldLink RX11 105 "DriftDeskModel" "pMoment" "[I", Cond.fieldLink RX11 108 "DriftDeskModel" "pA" "[I", Cond.fieldLink RX11 111 "DriftDeskModel" "pB" "[I", Cond.fieldLink RX11 114 "DriftDeskModel" "pC" "[I", Cond.fieldLink RX11 117 "DriftDeskModel" "pD" "[I", Cond.fieldLink RX11 120 "DriftDeskModel" "pSort" "[I", Cond.fieldLink RX11 123 "DriftDeskModel" "pEffort" "[I", Cond.fieldLink RX11 126 "DriftDeskModel" "isBack" "[Z", Cond.fieldLink RX11 129 "DriftDeskModel" "inCell" "[J", Cond.fieldLink RX11 133 "DriftDeskModel" "sees" "[J", Cond.fieldLink RX11 136 "DriftDeskModel" "uses" "[I", Cond.methodLink RX11 139 yX11_clear, Cond.instanceMethod yX11_clear, Cond.selects RX11 yX11_clear yX11_clear, Cond.code yX11_clear cX11_clear 3 none, Cond.methodLink RL 13 yX10_feed, Cond.instanceMethod yX10_feed, Cond.selects RX10 yX10_feed yX10_feed, Cond.code yX10_feed cX10_feed 6 (some .int), Cond.methodLink RX10 56 yX8_hasRoom, Cond.instanceMethod yX8_hasRoom, Cond.selects RX8 yX8_hasRoom yX8_hasRoom, Cond.code yX8_hasRoom cX8_hasRoom 2 (some .boolean), Cond.fieldLink RX8 13 "DriftDesk$Tape" "size" "I"]
def wsL_law_r7 : List Cond := [Cond.methodLink RX10 60 yX8_add, Cond.instanceMethod yX8_add, Cond.selects RX8 yX8_add yX8_add, Cond.code yX8_add cX8_add 3 none, Cond.methodLink RX10 64 yX8_size, Cond.instanceMethod yX8_size, Cond.selects RX8 yX8_size yX8_size, Cond.code yX8_size cX8_size 1 (some .int), Cond.methodLink RL 17 yX11_feed, Cond.instanceMethod yX11_feed, Cond.selects RX11 yX11_feed yX11_feed, Cond.code yX11_feed cX11_feed 8 (some .int), Cond.fieldLink RX11 143 "DriftDeskModel" "taped" "I", Cond.methodLink RL 18 yX10_end, Cond.instanceMethod yX10_end, Cond.selects RX10 yX10_end yX10_end, Cond.code yX10_end cX10_end 2 (some .int), Cond.methodLink RX10 68 yX10_within, Cond.static yX10_within, Cond.code yX10_within cX10_within 3 (some .boolean), Cond.methodLink RX10 72 yX8_cut, Cond.instanceMethod yX8_cut, Cond.selects RX8 yX8_cut yX8_cut, Cond.code yX8_cut cX8_cut 2 none]
def wsL_law_r8 : List Cond := [Cond.methodLink RL 22 yX11_end, Cond.instanceMethod yX11_end, Cond.selects RX11 yX11_end yX11_end, Cond.code yX11_end cX11_end 2 (some .int), Cond.methodLink RL 23 yX10_sea, Cond.instanceMethod yX10_sea, Cond.selects RX10 yX10_sea yX10_sea, Cond.code yX10_sea cX10_sea 4 (some .int), Cond.classLink RX10 84 "DriftDesk$Tale", Cond.methodLink RX10 75 yX4_readInto, Cond.instanceMethod yX4_readInto, Cond.selects RX4 yX4_readInto yX4_readInto, Cond.code yX4_readInto cX4_readInto 3 (some .boolean), Cond.fieldLink RX4 28 "DriftDesk$SeaReader" "fault" "I", Cond.methodLink RX4 31 yX3_clear, Cond.instanceMethod yX3_clear, Cond.selects RX3 yX3_clear yX3_clear, Cond.code yX3_clear cX3_clear 2 none, Cond.fieldLink RX3 33 "DriftDesk$Sea" "lines" "I", Cond.methodLink RX3 37 yX1_clear, Cond.instanceMethod yX1_clear, Cond.selects RX1 yX1_clear yX1_clear, Cond.code yX1_clear cX1_clear 2 none, Cond.methodLink RX4 36 yX9_rewind]
def wsL_law_r9 : List Cond := [Cond.instanceMethod yX9_rewind, Cond.selects RX9 yX9_rewind yX9_rewind, Cond.code yX9_rewind cX9_rewind 1 none, Cond.fieldLink RX9 23 "DriftDesk$Tokens" "behind" "I", Cond.methodLink RX4 39 yX9_readNext, Cond.instanceMethod yX9_readNext, Cond.selects RX9 yX9_readNext yX9_readNext, Cond.code yX9_readNext cX9_readNext 2 none, Cond.fieldLink RX9 17 "DriftDesk$Tokens" "start" "I", Cond.fieldLink RX9 13 "DriftDesk$Tokens" "kind" "I", Cond.methodLink RX9 26 yX9_skipBlanks, Cond.instanceMethod yX9_skipBlanks, Cond.selects RX9 yX9_skipBlanks yX9_skipBlanks, Cond.code yX9_skipBlanks cX9_skipBlanks 1 none, Cond.methodLink RX9 58 yX8_size, Cond.methodLink RX9 29 yX8_byteAt, Cond.instanceMethod yX8_byteAt, Cond.selects RX8 yX8_byteAt yX8_byteAt, Cond.code yX8_byteAt cX8_byteAt 2 (some .int), Cond.methodLink RX9 61 yX9_isBlank, Cond.static yX9_isBlank, Cond.code yX9_isBlank cX9_isBlank 1 (some .boolean), Cond.methodLink RX9 35 yX9_isLetter, Cond.static yX9_isLetter]
def wsL_law_r10 : List Cond := [Cond.code yX9_isLetter cX9_isLetter 1 (some .boolean), Cond.methodLink RX9 39 yX9_readWord, Cond.instanceMethod yX9_readWord, Cond.selects RX9 yX9_readWord yX9_readWord, Cond.code yX9_readWord cX9_readWord 1 none, Cond.methodLink RX9 42 yX9_isDigit, Cond.static yX9_isDigit, Cond.code yX9_isDigit cX9_isDigit 1 (some .boolean), Cond.methodLink RX9 45 yX9_readNumber, Cond.instanceMethod yX9_readNumber, Cond.selects RX9 yX9_readNumber yX9_readNumber, Cond.code yX9_readNumber cX9_readNumber 6 none, Cond.fieldLink RX9 20 "DriftDesk$Tokens" "value" "I", Cond.methodLink RX4 42 yX9_kind, Cond.instanceMethod yX9_kind, Cond.selects RX9 yX9_kind yX9_kind, Cond.code yX9_kind cX9_kind 1 (some .int), Cond.methodLink RX4 46 yX3_settle, Cond.instanceMethod yX3_settle, Cond.selects RX3 yX3_settle yX3_settle, Cond.code yX3_settle cX3_settle 2 none, Cond.methodLink RX3 40 yX1_settle, Cond.instanceMethod yX1_settle, Cond.selects RX1 yX1_settle yX1_settle]
def wsL_law_r11 : List Cond := [Cond.code yX1_settle cX1_settle 2 none, Cond.methodLink RX4 49 yX4_readLine, Cond.instanceMethod yX4_readLine, Cond.selects RX4 yX4_readLine yX4_readLine, Cond.code yX4_readLine cX4_readLine 4 none, Cond.fieldLink RX4 67 "DriftDesk$SeaReader" "NUMBERS" "[I", Cond.methodLink RX4 53 yX4_isThere, Cond.instanceMethod yX4_isThere, Cond.selects RX4 yX4_isThere yX4_isThere, Cond.code yX4_isThere cX4_isThere 3 (some .boolean), Cond.methodLink RX4 63 yX4_note, Cond.instanceMethod yX4_note, Cond.selects RX4 yX4_note yX4_note, Cond.code yX4_note cX4_note 2 none, Cond.methodLink RX4 115 yX9_start, Cond.instanceMethod yX9_start, Cond.selects RX9 yX9_start yX9_start, Cond.code yX9_start cX9_start 1 (some .int), Cond.methodLink RX4 57 yX4_sortOfWord, Cond.instanceMethod yX4_sortOfWord, Cond.selects RX4 yX4_sortOfWord yX4_sortOfWord, Cond.code yX4_sortOfWord cX4_sortOfWord 1 (some .int), Cond.methodLink RX4 80 yX9_spells, Cond.instanceMethod yX9_spells]
def wsL_law_r12 : List Cond := [Cond.selects RX9 yX9_spells yX9_spells, Cond.code yX9_spells cX9_spells 4 (some .boolean), Cond.methodLink RX9 48 yJ0_length_8abf5, Cond.instanceMethod yJ0_length_8abf5, Cond.selects RJ0 yJ0_length_8abf5 yJ0_length_8abf5, Cond.initialized RJ0, Cond.code yJ0_length_8abf5 cJ0_length_8abf5 1 (some .int), Cond.fieldLink RJ0 9 "java/lang/String" "value" "[B", Cond.methodLink RJ0 335 yJ0_coder_7d493, Cond.instanceMethod yJ0_coder_7d493, Cond.selects RJ0 yJ0_coder_7d493 yJ0_coder_7d493, Cond.code yJ0_coder_7d493 cJ0_coder_7d493 1 (some .byte), Cond.fieldLink RJ0 38 "java/lang/String" "COMPACT_STRINGS" "Z", Cond.fieldLink RJ0 15 "java/lang/String" "coder" "B", Cond.methodLink RX9 54 yJ0_charAt_5068e, Cond.instanceMethod yJ0_charAt_5068e, Cond.selects RJ0 yJ0_charAt_5068e yJ0_charAt_5068e, Cond.code yJ0_charAt_5068e cJ0_charAt_5068e 2 (some .char), Cond.methodLink RJ0 492 yJ0_isLatin1_aae02, Cond.instanceMethod yJ0_isLatin1_aae02, Cond.selects RJ0 yJ0_isLatin1_aae02 yJ0_isLatin1_aae02, Cond.code yJ0_isLatin1_aae02 cJ0_isLatin1_aae02 1 (some .boolean), Cond.methodLink RJ0 495 yJ1_charAt_3b067, Cond.static yJ1_charAt_3b067]
def wsL_law_r13 : List Cond := [Cond.initialized RJ1, Cond.code yJ1_charAt_3b067 cJ1_charAt_3b067 2 (some .char), Cond.methodLink RJ1 9 yJ0_checkIndex_df160, Cond.static yJ0_checkIndex_df160, Cond.code yJ0_checkIndex_df160 cJ0_checkIndex_df160 2 none, Cond.fieldLink RJ0 1053 "jdk/internal/util/Preconditions" "SIOOBE_FORMATTER" "Ljava/util/function/BiFunction;", Cond.methodLink RJ0 1059 yJ3_checkIndex_8e157, Cond.static yJ3_checkIndex_8e157, Cond.initialized RJ3, Cond.code yJ3_checkIndex_8e157 cJ3_checkIndex_8e157 3 (some .int), Cond.methodLink RJ0 498 yJ2_charAt_3b067, Cond.static yJ2_charAt_3b067, Cond.initialized RJ2, Cond.code yJ2_charAt_3b067 cJ2_charAt_3b067 2 (some .char), Cond.methodLink RJ2 67 yJ2_checkIndex_2214a, Cond.static yJ2_checkIndex_2214a, Cond.code yJ2_checkIndex_2214a cJ2_checkIndex_2214a 2 none, Cond.methodLink RJ2 48 yJ2_length_9d52b, Cond.static yJ2_length_9d52b, Cond.code yJ2_length_9d52b cJ2_length_9d52b 1 (some .int), Cond.methodLink RJ2 414 yJ0_checkIndex_df160, Cond.methodLink RJ2 71 yJ2_getChar_3b067, Cond.static yJ2_getChar_3b067, Cond.code yJ2_getChar_3b067 cJ2_getChar_3b067 2 (some .char)]
def wsL_law_r14 : List Cond := [Cond.fieldLink RJ2 44 "java/lang/StringUTF16" "$assertionsDisabled" "Z", Cond.fieldLink RJ2 59 "java/lang/StringUTF16" "HI_BYTE_SHIFT" "I", Cond.fieldLink RJ2 63 "java/lang/StringUTF16" "LO_BYTE_SHIFT" "I", Cond.methodLink RX4 60 yX3_lines, Cond.instanceMethod yX3_lines, Cond.selects RX3 yX3_lines yX3_lines, Cond.code yX3_lines cX3_lines 1 (some .int), Cond.methodLink RX4 70 yX4_readNumber, Cond.instanceMethod yX4_readNumber, Cond.selects RX4 yX4_readNumber yX4_readNumber, Cond.code yX4_readNumber cX4_readNumber 5 none, Cond.fieldLink RX4 95 "DriftDesk$SeaReader" "LEAST" "[I", Cond.fieldLink RX4 98 "DriftDesk$SeaReader" "MOST" "[I", Cond.fieldLink RX4 105 "DriftDesk$SeaReader" "TELLING" "[I", Cond.methodLink RX4 92 yX9_value, Cond.instanceMethod yX9_value, Cond.selects RX9 yX9_value yX9_value, Cond.code yX9_value cX9_value 1 (some .int), Cond.methodLink RX4 108 yX4_isTold, Cond.instanceMethod yX4_isTold, Cond.selects RX4 yX4_isTold yX4_isTold, Cond.code yX4_isTold cX4_isTold 3 (some .boolean), Cond.methodLink RX4 118 yX3_isWindTold, Cond.instanceMethod yX3_isWindTold]
def wsL_law_r15 : List Cond := [Cond.selects RX3 yX3_isWindTold yX3_isWindTold, Cond.code yX3_isWindTold cX3_isWindTold 2 (some .boolean), Cond.methodLink RX3 43 yX1_isTold, Cond.instanceMethod yX1_isTold, Cond.selects RX1 yX1_isTold yX1_isTold, Cond.code yX1_isTold cX1_isTold 2 (some .boolean), Cond.methodLink RX4 121 yX3_isStreamTold, Cond.instanceMethod yX3_isStreamTold, Cond.selects RX3 yX3_isStreamTold yX3_isStreamTold, Cond.code yX3_isStreamTold cX3_isStreamTold 3 (some .boolean), Cond.static yX10_isQuarter, Cond.code yX10_isQuarter cX10_isQuarter 1 (some .boolean), Cond.methodLink RX4 125 yX3_isLeeTold, Cond.instanceMethod yX3_isLeeTold, Cond.selects RX3 yX3_isLeeTold yX3_isLeeTold, Cond.code yX3_isLeeTold cX3_isLeeTold 2 (some .boolean), Cond.static yX10_isKind, Cond.code yX10_isKind cX10_isKind 1 (some .boolean), Cond.methodLink RX4 128 yX3_hasLand, Cond.instanceMethod yX3_hasLand, Cond.selects RX3 yX3_hasLand yX3_hasLand, Cond.code yX3_hasLand cX3_hasLand 2 (some .boolean), Cond.static yX10_isCell, Cond.code yX10_isCell cX10_isCell 1 (some .boolean)]
def wsL_law_r16 : List Cond := [Cond.methodLink RX4 131 yX3_isMissTold, Cond.instanceMethod yX3_isMissTold, Cond.selects RX3 yX3_isMissTold yX3_isMissTold, Cond.code yX3_isMissTold cX3_isMissTold 3 (some .boolean), Cond.static yX10_isMeans, Cond.code yX10_isMeans cX10_isMeans 3 (some .boolean), Cond.methodLink RX4 112 yX3_missFits, Cond.instanceMethod yX3_missFits, Cond.selects RX3 yX3_missFits yX3_missFits, Cond.code yX3_missFits cX3_missFits 5 (some .boolean), Cond.methodLink RX3 68 yX3_isMissTold, Cond.methodLink RX3 72 yX3_missOf, Cond.instanceMethod yX3_missOf, Cond.selects RX3 yX3_missOf yX3_missOf, Cond.code yX3_missOf cX3_missOf 3 (some .int), Cond.methodLink RX4 74 yX4_tell, Cond.instanceMethod yX4_tell, Cond.selects RX4 yX4_tell yX4_tell, Cond.code yX4_tell cX4_tell 3 none, Cond.methodLink RX4 134 yX3_tellWind, Cond.instanceMethod yX3_tellWind, Cond.selects RX3 yX3_tellWind yX3_tellWind, Cond.code yX3_tellWind cX3_tellWind 4 none, Cond.methodLink RX3 47 yX1_tell]
def wsL_law_r17 : List Cond := [Cond.instanceMethod yX1_tell, Cond.selects RX1 yX1_tell yX1_tell, Cond.code yX1_tell cX1_tell 4 none, Cond.static yX10_isHour, Cond.code yX10_isHour cX10_isHour 1 (some .boolean), Cond.methodLink RX4 138 yX3_tellStream, Cond.instanceMethod yX3_tellStream, Cond.selects RX3 yX3_tellStream yX3_tellStream, Cond.code yX3_tellStream cX3_tellStream 5 none, Cond.methodLink RX4 142 yX3_tellLee, Cond.instanceMethod yX3_tellLee, Cond.selects RX3 yX3_tellLee yX3_tellLee, Cond.code yX3_tellLee cX3_tellLee 3 none, Cond.methodLink RX4 146 yX3_tellLand, Cond.instanceMethod yX3_tellLand, Cond.selects RX3 yX3_tellLand yX3_tellLand, Cond.code yX3_tellLand cX3_tellLand 2 none, Cond.methodLink RX4 149 yX3_tellMiss, Cond.instanceMethod yX3_tellMiss, Cond.selects RX3 yX3_tellMiss yX3_tellMiss, Cond.code yX3_tellMiss cX3_tellMiss 4 none, Cond.methodLink RX4 152 yX3_countLine, Cond.instanceMethod yX3_countLine, Cond.selects RX3 yX3_countLine yX3_countLine]
def wsL_law_r18 : List Cond := [Cond.code yX3_countLine cX3_countLine 1 none, Cond.methodLink RX10 79 yJx4a65c_size_8abf5, Cond.instanceMethod yJx4a65c_size_8abf5, Cond.selects RJx4a65c yJx4a65c_size_8abf5 yJx4a65c_size_8abf5, Cond.code yJx4a65c_size_8abf5 cJx4a65c_size_8abf5 1 (some .int), Cond.fieldLink RJx4a65c 48 "java/util/ArrayList" "size" "I", Cond.methodLink RX10 80 yJx4a65c_get_915e3, Cond.instanceMethod yJx4a65c_get_915e3, Cond.selects RJx4a65c yJx4a65c_get_915e3 yJx4a65c_get_915e3, Cond.code yJx4a65c_get_915e3 cJx4a65c_get_915e3 2 (some (.object "java/lang/Object")), Cond.methodLink RJx4a65c 118 yJ15_checkIndex_7cf53, Cond.static yJ15_checkIndex_7cf53, Cond.initialized RJ15, Cond.code yJ15_checkIndex_7cf53 cJ15_checkIndex_7cf53 2 (some .int), Cond.methodLink RJ15 105 yJ3_checkIndex_8e157, Cond.methodLink RJx4a65c 123 yJx4a65c_elementData_915e3, Cond.instanceMethod yJx4a65c_elementData_915e3, Cond.selects RJx4a65c yJx4a65c_elementData_915e3 yJx4a65c_elementData_915e3, Cond.code yJx4a65c_elementData_915e3 cJx4a65c_elementData_915e3 2 (some (.object "java/lang/Object")), Cond.methodLink RX10 86 yX7_drift, Cond.instanceMethod yX7_drift, Cond.selects RX7 yX7_drift yX7_drift, Cond.initialized RX7, Cond.code yX7_drift cX7_drift 9 none]
def wsL_law_r19 : List Cond := [Cond.fieldLink RX7 19 "DriftDesk$Tale" "firstX" "I", Cond.fieldLink RX7 22 "DriftDesk$Tale" "firstY" "I", Cond.fieldLink RX7 25 "DriftDesk$Tale" "hour" "I", Cond.fieldLink RX7 15 "DriftDesk$Tale" "kind" "I", Cond.fieldLink RX7 9 "DriftDesk$Tale" "marks" "[S", Cond.static yX10_quarterOf, Cond.code yX10_quarterOf cX10_quarterOf 2 (some .int), Cond.methodLink RX7 35 yX3_stepOf, Cond.instanceMethod yX3_stepOf, Cond.selects RX3 yX3_stepOf yX3_stepOf, Cond.code yX3_stepOf cX3_stepOf 6 (some .int), Cond.methodLink RX3 76 yX3_streamOf, Cond.instanceMethod yX3_streamOf, Cond.selects RX3 yX3_streamOf yX3_streamOf, Cond.code yX3_streamOf cX3_streamOf 4 (some .int), Cond.methodLink RX3 51 yX1_stepIn, Cond.instanceMethod yX1_stepIn, Cond.selects RX1 yX1_stepIn yX1_stepIn, Cond.code yX1_stepIn cX1_stepIn 3 (some .int), Cond.methodLink RX3 80 yX3_windOf, Cond.instanceMethod yX3_windOf, Cond.selects RX3 yX3_windOf yX3_windOf, Cond.code yX3_windOf cX3_windOf 3 (some .int), Cond.static yX10_isPoint]
def wsL_law_r20 : List Cond := [Cond.code yX10_isPoint cX10_isPoint 2 (some .boolean), Cond.static yX10_cellOf, Cond.code yX10_cellOf cX10_cellOf 2 (some .int), Cond.methodLink RX7 48 yX3_hasLand, Cond.methodLink RX10 90 yX3_lines, Cond.methodLink RL 27 yX11_sea, Cond.instanceMethod yX11_sea, Cond.selects RX11 yX11_sea yX11_sea, Cond.code yX11_sea cX11_sea 2 (some .int), Cond.fieldLink RX11 11 "DriftDeskModel" "faultKind" "I", Cond.fieldLink RX11 1 "DriftDeskModel" "size" "I", Cond.fieldLink RX11 17 "DriftDeskModel" "end" "I", Cond.fieldLink RX11 146 "DriftDeskModel" "bank" "I", Cond.fieldLink RX11 149 "DriftDeskModel" "rb" "I", Cond.fieldLink RX11 27 "DriftDeskModel" "token" "I", Cond.methodLink RX11 152 yX11_next, Cond.instanceMethod yX11_next, Cond.selects RX11 yX11_next yX11_next, Cond.code yX11_next cX11_next 3 none, Cond.fieldLink RX11 20 "DriftDeskModel" "at" "I", Cond.fieldLink RX11 34 "DriftDeskModel" "name" "J", Cond.methodLink RX11 23 yX11_sign, Cond.instanceMethod yX11_sign, Cond.selects RX11 yX11_sign yX11_sign]
def wsL_law_r21 : List Cond := [Cond.code yX11_sign cX11_sign 2 (some .int), Cond.methodLink RX11 30 yX11_isLetter, Cond.static yX11_isLetter, Cond.code yX11_isLetter cX11_isLetter 1 (some .boolean), Cond.methodLink RX11 38 yX11_isDigit, Cond.static yX11_isDigit, Cond.code yX11_isDigit cX11_isDigit 1 (some .boolean), Cond.methodLink RX11 41 yX11_readNumber, Cond.instanceMethod yX11_readNumber, Cond.selects RX11 yX11_readNumber yX11_readNumber, Cond.code yX11_readNumber cX11_readNumber 3 none, Cond.fieldLink RX11 45 "DriftDeskModel" "number" "I", Cond.methodLink RX11 155 yX11_isGood, Cond.instanceMethod yX11_isGood, Cond.selects RX11 yX11_isGood yX11_isGood, Cond.code yX11_isGood cX11_isGood 1 (some .boolean), Cond.methodLink RX11 159 yX11_readLine, Cond.instanceMethod yX11_readLine, Cond.selects RX11 yX11_readLine yX11_readLine, Cond.code yX11_readLine cX11_readLine 4 none, Cond.constantLong RX11 168 (2003398244), Cond.constantLong RX11 174 (126943972647277), Cond.constantLong RX11 176 (7103845), Cond.constantLong RX11 178 (1818324580)]
def wsL_law_r22 : List Cond := [Cond.constantLong RX11 180 (1835627379), Cond.methodLink RX11 170 yX11_isWord, Cond.instanceMethod yX11_isWord, Cond.selects RX11 yX11_isWord yX11_isWord, Cond.code yX11_isWord cX11_isWord 3 (some .boolean), Cond.methodLink RX11 165 yX11_wrong, Cond.instanceMethod yX11_wrong, Cond.selects RX11 yX11_wrong yX11_wrong, Cond.code yX11_wrong cX11_wrong 1 none, Cond.methodLink RX11 48 yX11_fails, Cond.instanceMethod yX11_fails, Cond.selects RX11 yX11_fails yX11_fails, Cond.code yX11_fails cX11_fails 3 none, Cond.methodLink RX11 182 yX11_readWind, Cond.instanceMethod yX11_readWind, Cond.selects RX11 yX11_readWind yX11_readWind, Cond.code yX11_readWind cX11_readWind 4 none, Cond.methodLink RX11 197 yX11_numeral, Cond.instanceMethod yX11_numeral, Cond.selects RX11 yX11_numeral yX11_numeral, Cond.code yX11_numeral cX11_numeral 4 (some .int), Cond.fieldLink RX11 162 "DriftDeskModel" "lastAt" "I", Cond.methodLink RX11 201 yX11_twice, Cond.instanceMethod yX11_twice]
def wsL_law_r23 : List Cond := [Cond.selects RX11 yX11_twice yX11_twice, Cond.code yX11_twice cX11_twice 2 none, Cond.methodLink RX11 185 yX11_readStream, Cond.instanceMethod yX11_readStream, Cond.selects RX11 yX11_readStream yX11_readStream, Cond.code yX11_readStream cX11_readStream 5 none, Cond.methodLink RX11 188 yX11_readLee, Cond.instanceMethod yX11_readLee, Cond.selects RX11 yX11_readLee yX11_readLee, Cond.code yX11_readLee cX11_readLee 2 none, Cond.methodLink RX11 191 yX11_readLand, Cond.instanceMethod yX11_readLand, Cond.selects RX11 yX11_readLand yX11_readLand, Cond.code yX11_readLand cX11_readLand 3 none, Cond.methodLink RX11 194 yX11_readMiss, Cond.instanceMethod yX11_readMiss, Cond.selects RX11 yX11_readMiss yX11_readMiss, Cond.code yX11_readMiss cX11_readMiss 7 none, Cond.methodLink RL 28 yX10_fault, Cond.instanceMethod yX10_fault, Cond.selects RX10 yX10_fault yX10_fault, Cond.code yX10_fault cX10_fault 2 (some .int), Cond.methodLink RX10 93 yX4_foundFault, Cond.instanceMethod yX4_foundFault]
def wsL_law_r24 : List Cond := [Cond.selects RX4 yX4_foundFault yX4_foundFault, Cond.code yX4_foundFault cX4_foundFault 1 (some .int), Cond.methodLink RX10 96 yX4_foundAt, Cond.instanceMethod yX4_foundAt, Cond.selects RX4 yX4_foundAt yX4_foundAt, Cond.code yX4_foundAt cX4_foundAt 1 (some .int), Cond.methodLink RL 31 yX11_fault, Cond.instanceMethod yX11_fault, Cond.selects RX11 yX11_fault yX11_fault, Cond.code yX11_fault cX11_fault 2 (some .int), Cond.methodLink RL 32 yX10_wind, Cond.instanceMethod yX10_wind, Cond.selects RX10 yX10_wind yX10_wind, Cond.code yX10_wind cX10_wind 3 (some .int), Cond.methodLink RX10 99 yX10_isHour, Cond.methodLink RX10 102 yX3_windOf, Cond.methodLink RL 36 yX11_wind, Cond.instanceMethod yX11_wind, Cond.selects RX11 yX11_wind yX11_wind, Cond.code yX11_wind cX11_wind 3 (some .int), Cond.methodLink RX11 204 yX11_isHour, Cond.static yX11_isHour, Cond.code yX11_isHour cX11_isHour 1 (some .boolean), Cond.methodLink RX11 207 yX11_windOf]
def wsL_law_r25 : List Cond := [Cond.instanceMethod yX11_windOf, Cond.selects RX11 yX11_windOf yX11_windOf, Cond.code yX11_windOf cX11_windOf 4 (some .int), Cond.methodLink RL 37 yX10_stream, Cond.instanceMethod yX10_stream, Cond.selects RX10 yX10_stream yX10_stream, Cond.code yX10_stream cX10_stream 5 (some .int), Cond.methodLink RX10 106 yX10_isQuarter, Cond.methodLink RX10 109 yX3_streamOf, Cond.methodLink RL 41 yX11_stream, Cond.instanceMethod yX11_stream, Cond.selects RX11 yX11_stream yX11_stream, Cond.code yX11_stream cX11_stream 4 (some .int), Cond.methodLink RX11 211 yX11_streamOf, Cond.instanceMethod yX11_streamOf, Cond.selects RX11 yX11_streamOf yX11_streamOf, Cond.code yX11_streamOf cX11_streamOf 6 (some .int), Cond.methodLink RL 42 yX10_miss, Cond.instanceMethod yX10_miss, Cond.selects RX10 yX10_miss yX10_miss, Cond.code yX10_miss cX10_miss 3 (some .int), Cond.methodLink RX10 113 yX10_isMeans, Cond.methodLink RX10 116 yX3_missOf, Cond.methodLink RL 46 yX11_miss]
def wsL_law_r26 : List Cond := [Cond.instanceMethod yX11_miss, Cond.selects RX11 yX11_miss yX11_miss, Cond.code yX11_miss cX11_miss 3 (some .int), Cond.methodLink RX11 215 yX11_isSort, Cond.static yX11_isSort, Cond.code yX11_isSort cX11_isSort 1 (some .boolean), Cond.methodLink RX11 218 yX11_missOf, Cond.instanceMethod yX11_missOf, Cond.selects RX11 yX11_missOf yX11_missOf, Cond.code yX11_missOf cX11_missOf 4 (some .int), Cond.methodLink RL 47 yX10_land, Cond.instanceMethod yX10_land, Cond.selects RX10 yX10_land yX10_land, Cond.code yX10_land cX10_land 2 (some .int), Cond.methodLink RX10 120 yX10_isCell, Cond.methodLink RX10 123 yX3_hasLand, Cond.methodLink RL 50 yX11_land, Cond.instanceMethod yX11_land, Cond.selects RX11 yX11_land yX11_land, Cond.code yX11_land cX11_land 2 (some .int), Cond.methodLink RL 51 yX10_tale, Cond.instanceMethod yX10_tale, Cond.selects RX10 yX10_tale yX10_tale, Cond.code yX10_tale cX10_tale 8 (some .int)]
def wsL_law_r27 : List Cond := [Cond.classLink RX10 84 RX7, Cond.instantiable RX7 6, Cond.methodLink RX10 126 yX10_isKind, Cond.methodLink RX10 129 yX10_isPoint, Cond.methodLink RX10 133 yX7_init, Cond.instanceMethod yX7_init, Cond.code yX7_init cX7_init 6 none, Cond.methodLink RX7 3 objectInit, Cond.arrayClass .short, Cond.fieldLink RX7 28 "DriftDesk$Tale" "weight" "I", Cond.methodLink RX10 136 yJx4a65c_add_9ea2d, Cond.instanceMethod yJx4a65c_add_9ea2d, Cond.selects RJx4a65c yJx4a65c_add_9ea2d yJx4a65c_add_9ea2d, Cond.code yJx4a65c_add_9ea2d cJx4a65c_add_9ea2d 2 (some .boolean), Cond.fieldLink RJx4a65c 63 "java/util/ArrayList" "modCount" "I", Cond.sameField "java/util/ArrayList" "java/util/AbstractList" "modCount" "I", Cond.methodLink RJx4a65c 131 yJx4a65c_add_72be8, Cond.instanceMethod yJx4a65c_add_72be8, Cond.selects RJx4a65c yJx4a65c_add_72be8 yJx4a65c_add_72be8, Cond.code yJx4a65c_add_72be8 cJx4a65c_add_72be8 4 none, Cond.methodLink RJx4a65c 129 yJx4a65c_grow_d5877, Cond.instanceMethod yJx4a65c_grow_d5877, Cond.selects RJx4a65c yJx4a65c_grow_d5877 yJx4a65c_grow_d5877, Cond.code yJx4a65c_grow_d5877 cJx4a65c_grow_d5877 1 (some (.array (.object "java/lang/Object")))]
def wsL_law_r28 : List Cond := [Cond.methodLink RJx4a65c 69 yJx4a65c_grow_92f84, Cond.instanceMethod yJx4a65c_grow_92f84, Cond.selects RJx4a65c yJx4a65c_grow_92f84 yJx4a65c_grow_92f84, Cond.code yJx4a65c_grow_92f84 cJx4a65c_grow_92f84 4 (some (.array (.object "java/lang/Object"))), Cond.methodLink RJx4a65c 79 Lib.Math.max.name, Cond.static Lib.Math.max.name, Cond.initialized "java/lang/Math", Cond.code Lib.Math.max.name Lib.Math.max.code 2 (some .int), Cond.classLink RJx4a65c 7 "java/lang/Object", Cond.methodLink RJx4a65c 73 yJ8_newLength_cabcc, Cond.static yJ8_newLength_cabcc, Cond.initialized RJ8, Cond.code yJ8_newLength_cabcc cJ8_newLength_cabcc 4 (some .int), Cond.methodLink RJ8 194 Lib.Math.max.name, Cond.constant RJ8 200 (2147483639), Cond.methodLink RJ8 201 yJ8_hugeLength_7cf53, Cond.static yJ8_hugeLength_7cf53, Cond.code yJ8_hugeLength_7cf53 cJ8_hugeLength_7cf53 3 (some .int), Cond.methodLink RJx4a65c 66 yJ7_copyOf_1904c, Cond.static yJ7_copyOf_1904c, Cond.initialized RJ7, Cond.code yJ7_copyOf_1904c cJ7_copyOf_1904c 2 (some (.array (.object "java/lang/Object"))), Cond.methodLink RJ7 86 ⟨"java/lang/Object", "getClass", "()Ljava/lang/Class;"⟩, Cond.selects "[Ljava/lang/Object;" ⟨"java/lang/Object", "getClass", "()Ljava/lang/Class;"⟩ ⟨"java/lang/Object", "getClass", "()Ljava/lang/Class;"⟩]
def wsL_law_r29 : List Cond := [Cond.instanceMethod ⟨"java/lang/Object", "getClass", "()Ljava/lang/Class;"⟩, Cond.native ⟨"java/lang/Object", "getClass", "()Ljava/lang/Class;"⟩, Cond.methodLink RJ7 300 yJ7_copyOf_6403c, Cond.static yJ7_copyOf_6403c, Cond.code yJ7_copyOf_6403c cJ7_copyOf_6403c 4 (some (.array (.object "java/lang/Object"))), Cond.classLink RJ7 110 "[Ljava/lang/Object;", Cond.classLink RJ7 2 "java/lang/Object", Cond.methodLink RJ7 304 Lib.Math.min.name, Cond.static Lib.Math.min.name, Cond.code Lib.Math.min.name Lib.Math.min.code 2 (some .int), Cond.methodLink RJ7 150 arraycopyName, Cond.native arraycopyName, Cond.static arraycopyName, Cond.initialized "java/lang/System", Cond.methodLink RL 54 yX11_tale, Cond.instanceMethod yX11_tale, Cond.selects RX11 yX11_tale yX11_tale, Cond.code yX11_tale cX11_tale 6 (some .int), Cond.fieldLink RX11 224 "DriftDeskModel" "tales" "I", Cond.methodLink RX11 221 yX11_isPoint, Cond.static yX11_isPoint, Cond.code yX11_isPoint cX11_isPoint 1 (some .boolean), Cond.methodLink RL 55 yX10_place, Cond.instanceMethod yX10_place]
def wsL_law_r30 : List Cond := [Cond.selects RX10 yX10_place yX10_place, Cond.code yX10_place cX10_place 4 (some .int), Cond.methodLink RX10 139 yX10_isTale, Cond.instanceMethod yX10_isTale, Cond.selects RX10 yX10_isTale yX10_isTale, Cond.code yX10_isTale cX10_isTale 2 (some .boolean), Cond.methodLink RX10 142 yX10_isMoment, Cond.static yX10_isMoment, Cond.code yX10_isMoment cX10_isMoment 1 (some .boolean), Cond.methodLink RX10 145 yX7_pointAt, Cond.instanceMethod yX7_pointAt, Cond.selects RX7 yX7_pointAt yX7_pointAt, Cond.code yX7_pointAt cX7_pointAt 3 (some .int), Cond.methodLink RL 58 yX11_place, Cond.instanceMethod yX11_place, Cond.selects RX11 yX11_place yX11_place, Cond.code yX11_place cX11_place 3 (some .int), Cond.fieldLink RX11 240 "DriftDeskModel" "how" "I", Cond.fieldLink RX11 231 "DriftDeskModel" "py" "I", Cond.fieldLink RX11 234 "DriftDeskModel" "px" "I", Cond.methodLink RX11 243 yX11_isTale, Cond.instanceMethod yX11_isTale, Cond.selects RX11 yX11_isTale yX11_isTale, Cond.code yX11_isTale cX11_isTale 2 (some .boolean)]
def wsL_law_r31 : List Cond := [Cond.methodLink RX11 246 yX11_isMoment, Cond.static yX11_isMoment, Cond.code yX11_isMoment cX11_isMoment 1 (some .boolean), Cond.methodLink RX11 249 yX11_drift, Cond.instanceMethod yX11_drift, Cond.selects RX11 yX11_drift yX11_drift, Cond.code yX11_drift cX11_drift 6 none, Cond.methodLink RX11 237 yX11_isOnLand, Cond.instanceMethod yX11_isOnLand, Cond.selects RX11 yX11_isOnLand yX11_isOnLand, Cond.code yX11_isOnLand cX11_isOnLand 1 (some .boolean), Cond.methodLink RX11 227 yX11_cellHere, Cond.instanceMethod yX11_cellHere, Cond.selects RX11 yX11_cellHere yX11_cellHere, Cond.code yX11_cellHere cX11_cellHere 1 (some .int), Cond.methodLink RL 59 yX10_state, Cond.instanceMethod yX10_state, Cond.selects RX10 yX10_state yX10_state, Cond.code yX10_state cX10_state 4 (some .int), Cond.methodLink RX10 149 yX7_stateAt, Cond.instanceMethod yX7_stateAt, Cond.selects RX7 yX7_stateAt yX7_stateAt, Cond.code yX7_stateAt cX7_stateAt 2 (some .int), Cond.methodLink RL 62 yX11_state]
def wsL_law_r32 : List Cond := [Cond.instanceMethod yX11_state, Cond.selects RX11 yX11_state yX11_state, Cond.code yX11_state cX11_state 3 (some .int), Cond.methodLink RL 63 yX10_search, Cond.instanceMethod yX10_search, Cond.selects RX10 yX10_search yX10_search, Cond.code yX10_search cX10_search 9 (some .int), Cond.classLink RX10 159 RX5, Cond.instantiable RX5 8, Cond.initialized RX5, Cond.methodLink RX10 152 yX10_isSpan, Cond.static yX10_isSpan, Cond.code yX10_isSpan cX10_isSpan 2 (some .boolean), Cond.methodLink RX10 155 yX10_hasRoomForProof, Cond.instanceMethod yX10_hasRoomForProof, Cond.selects RX10 yX10_hasRoomForProof yX10_hasRoomForProof, Cond.code yX10_hasRoomForProof cX10_hasRoomForProof 1 (some .boolean), Cond.fieldLink RX10 179 "DriftDesk" "standing" "I", Cond.methodLink RX10 161 yX5_init, Cond.instanceMethod yX5_init, Cond.code yX5_init cX5_init 8 none, Cond.fieldLink RX5 9 "DriftDesk$Search" "moment" "I", Cond.fieldLink RX5 15 "DriftDesk$Search" "firstColumn" "I", Cond.fieldLink RX5 18 "DriftDesk$Search" "lastColumn" "I"]
def wsL_law_r33 : List Cond := [Cond.fieldLink RX5 21 "DriftDesk$Search" "firstRow" "I", Cond.fieldLink RX5 24 "DriftDesk$Search" "lastRow" "I", Cond.fieldLink RX5 27 "DriftDesk$Search" "sort" "I", Cond.fieldLink RX5 30 "DriftDesk$Search" "effort" "I", Cond.instanceMethod yX2_init, Cond.initialized RX2, Cond.code yX2_init cX2_init 1 none, Cond.methodLink RX2 1 objectInit, Cond.methodLink RX10 164 yX10_addProof, Cond.instanceMethod yX10_addProof, Cond.selects RX10 yX10_addProof yX10_addProof, Cond.code yX10_addProof cX10_addProof 2 (some .int), Cond.methodLink RL 67 yX11_search, Cond.instanceMethod yX11_search, Cond.selects RX11 yX11_search yX11_search, Cond.code yX11_search cX11_search 8 (some .int), Cond.methodLink RX11 258 yX11_isFull, Cond.instanceMethod yX11_isFull, Cond.selects RX11 yX11_isFull yX11_isFull, Cond.code yX11_isFull cX11_isFull 1 (some .boolean), Cond.fieldLink RX11 252 "DriftDeskModel" "proofs" "I", Cond.methodLink RX11 255 yX11_standing, Cond.instanceMethod yX11_standing, Cond.selects RX11 yX11_standing yX11_standing]
def wsL_law_r34 : List Cond := [Cond.code yX11_standing cX11_standing 3 (some .int), Cond.methodLink RX11 261 yX11_prove, Cond.instanceMethod yX11_prove, Cond.selects RX11 yX11_prove yX11_prove, Cond.code yX11_prove cX11_prove 8 (some .int), Cond.methodLink RL 68 yX10_clue, Cond.instanceMethod yX10_clue, Cond.selects RX10 yX10_clue yX10_clue, Cond.code yX10_clue cX10_clue 7 (some .int), Cond.classLink RX10 168 RX0, Cond.instantiable RX0 6, Cond.initialized RX0, Cond.methodLink RX10 170 yX0_init, Cond.instanceMethod yX0_init, Cond.code yX0_init cX0_init 6 none, Cond.fieldLink RX0 9 "DriftDesk$Clue" "moment" "I", Cond.fieldLink RX0 15 "DriftDesk$Clue" "x" "I", Cond.fieldLink RX0 18 "DriftDesk$Clue" "y" "I", Cond.fieldLink RX0 21 "DriftDesk$Clue" "reach" "I", Cond.fieldLink RX0 24 "DriftDesk$Clue" "percentElsewhere" "I", Cond.methodLink RL 71 yX11_clue, Cond.instanceMethod yX11_clue, Cond.selects RX11 yX11_clue yX11_clue, Cond.code yX11_clue cX11_clue 6 (some .int)]
def wsL_law_r35 : List Cond := [Cond.methodLink RL 72 yX10_back, Cond.instanceMethod yX10_back, Cond.selects RX10 yX10_back yX10_back, Cond.code yX10_back cX10_back 2 (some .boolean), Cond.classLink RX10 171 "DriftDesk$Proof", Cond.methodLink RX10 173 ⟨"DriftDesk$Proof", "isStanding", "()Z"⟩, Cond.sameMethod "DriftDesk$Proof" "DriftDesk$Proof" "isStanding" "()Z", Cond.selects RX0 ⟨"DriftDesk$Proof", "isStanding", "()Z"⟩ yX2_isStanding, Cond.instanceMethod yX2_isStanding, Cond.code yX2_isStanding cX2_isStanding 1 (some .boolean), Cond.fieldLink RX2 7 "DriftDesk$Proof" "takenBack" "Z", Cond.selects RX5 ⟨"DriftDesk$Proof", "isStanding", "()Z"⟩ yX2_isStanding, Cond.methodLink RX10 176 ⟨"DriftDesk$Proof", "takeBack", "()V"⟩, Cond.sameMethod "DriftDesk$Proof" "DriftDesk$Proof" "takeBack" "()V", Cond.selects RX0 ⟨"DriftDesk$Proof", "takeBack", "()V"⟩ yX2_takeBack, Cond.instanceMethod yX2_takeBack, Cond.code yX2_takeBack cX2_takeBack 1 none, Cond.selects RX5 ⟨"DriftDesk$Proof", "takeBack", "()V"⟩ yX2_takeBack, Cond.methodLink RL 76 yX11_back, Cond.instanceMethod yX11_back, Cond.selects RX11 yX11_back yX11_back, Cond.code yX11_back cX11_back 2 (some .boolean), Cond.methodLink RL 77 yX10_odds, Cond.instanceMethod yX10_odds]
def wsL_law_r36 : List Cond := [Cond.selects RX10 yX10_odds yX10_odds, Cond.code yX10_odds cX10_odds 2 (some .long), Cond.constantLong RX10 187 (-1), Cond.methodLink RX10 183 yX10_oddsOf, Cond.instanceMethod yX10_oddsOf, Cond.selects RX10 yX10_oddsOf yX10_oddsOf, Cond.code yX10_oddsOf cX10_oddsOf 6 (some .long), Cond.methodLink RX10 211 yX7_weight, Cond.instanceMethod yX7_weight, Cond.selects RX7 yX7_weight yX7_weight, Cond.code yX7_weight cX7_weight 1 (some .int), Cond.methodLink RX10 218 ⟨"DriftDesk$Proof", "weighing", "(LDriftDesk$Tale;LDriftDesk$Sea;)I"⟩, Cond.sameMethod "DriftDesk$Proof" "DriftDesk$Proof" "weighing" "(LDriftDesk$Tale;LDriftDesk$Sea;)I", Cond.selects RX0 ⟨"DriftDesk$Proof", "weighing", "(LDriftDesk$Tale;LDriftDesk$Sea;)I"⟩ yX0_weighing, Cond.instanceMethod yX0_weighing, Cond.code yX0_weighing cX0_weighing 5 (some .int), Cond.methodLink RX0 33 Lib.Math.abs.name, Cond.static Lib.Math.abs.name, Cond.code Lib.Math.abs.name Lib.Math.abs.code 1 (some .int), Cond.methodLink RX0 27 yX7_pointAt, Cond.selects RX5 ⟨"DriftDesk$Proof", "weighing", "(LDriftDesk$Tale;LDriftDesk$Sea;)I"⟩ yX5_weighing, Cond.instanceMethod yX5_weighing, Cond.code yX5_weighing cX5_weighing 4 (some .int), Cond.methodLink RX5 33 yX7_stateAt]
def wsL_law_r37 : List Cond := [Cond.methodLink RX5 39 yX7_cellAt, Cond.instanceMethod yX7_cellAt, Cond.selects RX7 yX7_cellAt yX7_cellAt, Cond.code yX7_cellAt cX7_cellAt 3 (some .int), Cond.methodLink RX7 55 yX7_pointAt, Cond.methodLink RX5 42 yX5_hasCell, Cond.instanceMethod yX5_hasCell, Cond.selects RX5 yX5_hasCell yX5_hasCell, Cond.code yX5_hasCell cX5_hasCell 2 (some .boolean), Cond.methodLink RX5 46 yX3_missOf, Cond.methodLink RL 81 yX11_odds, Cond.instanceMethod yX11_odds, Cond.selects RX11 yX11_odds yX11_odds, Cond.code yX11_odds cX11_odds 2 (some .long), Cond.constantLong RX11 275 (-1), Cond.methodLink RX11 271 yX11_oddsOf, Cond.instanceMethod yX11_oddsOf, Cond.selects RX11 yX11_oddsOf yX11_oddsOf, Cond.code yX11_oddsOf cX11_oddsOf 5 (some .long), Cond.methodLink RX11 268 yX11_weighs, Cond.instanceMethod yX11_weighs, Cond.selects RX11 yX11_weighs yX11_weighs, Cond.code yX11_weighs cX11_weighs 4 (some .int), Cond.methodLink RX11 265 yX11_off]
def wsL_law_r38 : List Cond := [Cond.static yX11_off, Cond.code yX11_off cX11_off 2 (some .int), Cond.methodLink RL 82 yX10_share, Cond.instanceMethod yX10_share, Cond.selects RX10 yX10_share yX10_share, Cond.code yX10_share cX10_share 10 (some .long), Cond.methodLink RX10 189 yX10_sumByCell, Cond.instanceMethod yX10_sumByCell, Cond.selects RX10 yX10_sumByCell yX10_sumByCell, Cond.code yX10_sumByCell cX10_sumByCell 7 none, Cond.methodLink RX10 222 yX7_cellAt, Cond.methodLink RX10 193 yX10_allOdds, Cond.instanceMethod yX10_allOdds, Cond.selects RX10 yX10_allOdds yX10_allOdds, Cond.code yX10_allOdds cX10_allOdds 4 (some .long), Cond.methodLink RX10 197 yX10_greatestDivisor, Cond.static yX10_greatestDivisor, Cond.code yX10_greatestDivisor cX10_greatestDivisor 7 (some .long), Cond.methodLink RL 86 yX11_share, Cond.instanceMethod yX11_share, Cond.selects RX11 yX11_share yX11_share, Cond.code yX11_share cX11_share 6 (some .long), Cond.fieldLink RX11 277 "DriftDeskModel" "all" "J", Cond.methodLink RX11 280 yX11_sumUp]
def wsL_law_r39 : List Cond := [Cond.instanceMethod yX11_sumUp, Cond.selects RX11 yX11_sumUp yX11_sumUp, Cond.code yX11_sumUp cX11_sumUp 6 none, Cond.methodLink RX11 284 yX11_divisor, Cond.static yX11_divisor, Cond.code yX11_divisor cX11_divisor 10 (some .long), Cond.methodLink RL 87 yX10_likeliest, Cond.instanceMethod yX10_likeliest, Cond.selects RX10 yX10_likeliest yX10_likeliest, Cond.code yX10_likeliest cX10_likeliest 6 (some .int), Cond.methodLink RL 90 yX11_likeliest, Cond.instanceMethod yX11_likeliest, Cond.selects RX11 yX11_likeliest yX11_likeliest, Cond.code yX11_likeliest cX11_likeliest 4 (some .int), Cond.methodLink RL 91 yX10_seen, Cond.instanceMethod yX10_seen, Cond.selects RX10 yX10_seen yX10_seen, Cond.code yX10_seen cX10_seen 4 (some .long), Cond.methodLink RX10 201 yX6_weigh, Cond.instanceMethod yX6_weigh, Cond.selects RX6 yX6_weigh yX6_weigh, Cond.code yX6_weigh cX6_weigh 7 none, Cond.methodLink RX6 28 Lib.Math.min.name, Cond.methodLink RX6 34 Lib.Math.max.name]
def wsL_law_r40 : List Cond := [Cond.fieldLink RX6 37 "DriftDesk$Split" "effort" "I", Cond.fieldLink RX6 49 "DriftDesk$Split" "cellCount" "I", Cond.methodLink RX6 41 yX6_listCells, Cond.instanceMethod yX6_listCells, Cond.selects RX6 yX6_listCells yX6_listCells, Cond.code yX6_listCells cX6_listCells 3 none, Cond.methodLink RX6 45 yX6_listSteps, Cond.instanceMethod yX6_listSteps, Cond.selects RX6 yX6_listSteps yX6_listSteps, Cond.code yX6_listSteps cX6_listSteps 5 none, Cond.fieldLink RX6 68 "DriftDesk$Split" "stepCount" "I", Cond.methodLink RX6 63 yX3_missOf, Cond.methodLink RX6 52 yX6_mostFrom, Cond.instanceMethod yX6_mostFrom, Cond.selects RX6 yX6_mostFrom yX6_mostFrom, Cond.code yX6_mostFrom cX6_mostFrom 6 (some .long), Cond.methodLink RX6 75 Lib.MathLoose.max_long.x, Cond.static Lib.MathLoose.max_long.x, Cond.code Lib.MathLoose.max_long.x Lib.MathLoose.max_long.code 4 (some .long), Cond.methodLink RX6 71 yX6_shownBy, Cond.instanceMethod yX6_shownBy, Cond.selects RX6 yX6_shownBy yX6_shownBy, Cond.code yX6_shownBy cX6_shownBy 4 (some .long), Cond.methodLink RX10 205 yX6_mostSeen]
def wsL_law_r41 : List Cond := [Cond.instanceMethod yX6_mostSeen, Cond.selects RX6 yX6_mostSeen yX6_mostSeen, Cond.code yX6_mostSeen cX6_mostSeen 1 (some .long), Cond.methodLink RL 95 yX11_seen, Cond.instanceMethod yX11_seen, Cond.selects RX11 yX11_seen yX11_seen, Cond.code yX11_seen cX11_seen 4 (some .long), Cond.methodLink RX11 295 yX11_canSplit, Cond.instanceMethod yX11_canSplit, Cond.selects RX11 yX11_canSplit yX11_canSplit, Cond.code yX11_canSplit cX11_canSplit 4 (some .boolean), Cond.methodLink RX11 299 yX11_give, Cond.instanceMethod yX11_give, Cond.selects RX11 yX11_give yX11_give, Cond.code yX11_give cX11_give 12 none, Cond.methodLink RX11 288 yX11_spot, Cond.static yX11_spot, Cond.code yX11_spot cX11_spot 2 (some .int), Cond.methodLink RX11 291 yX11_gain, Cond.instanceMethod yX11_gain, Cond.selects RX11 yX11_gain yX11_gain, Cond.code yX11_gain cX11_gain 4 (some .long), Cond.methodLink RL 96 yX10_split, Cond.instanceMethod yX10_split]
def wsL_law_r42 : List Cond := [Cond.selects RX10 yX10_split yX10_split, Cond.code yX10_split cX10_split 5 (some .int), Cond.methodLink RX10 208 yX6_givenTo, Cond.instanceMethod yX6_givenTo, Cond.selects RX6 yX6_givenTo yX6_givenTo, Cond.code yX6_givenTo cX6_givenTo 5 (some .int), Cond.methodLink RX6 56 yX6_leastForMost, Cond.instanceMethod yX6_leastForMost, Cond.selects RX6 yX6_leastForMost yX6_leastForMost, Cond.code yX6_leastForMost cX6_leastForMost 2 (some .int), Cond.methodLink RX6 60 yX6_leastGift, Cond.instanceMethod yX6_leastGift, Cond.selects RX6 yX6_leastGift yX6_leastGift, Cond.code yX6_leastGift cX6_leastGift 4 (some .int), Cond.methodLink RL 100 yX11_split, Cond.instanceMethod yX11_split, Cond.selects RX11 yX11_split yX11_split, Cond.code yX11_split cX11_split 8 (some .int), Cond.methodLink RL 101 yX10_left, Cond.instanceMethod yX10_left, Cond.selects RX10 yX10_left yX10_left, Cond.code yX10_left cX10_left 6 (some .int), Cond.constantLong RX10 214 (10000), Cond.constantLong RX10 216 (100)]
def wsL_law_r43 : List Cond := [Cond.methodLink RL 104 yX11_left, Cond.instanceMethod yX11_left, Cond.selects RX11 yX11_left yX11_left, Cond.code yX11_left cX11_left 9 (some .int), Cond.constantLong RX11 302 (100), Cond.constantLong RX11 304 (10), Cond.methodLink RL 105 yX10_tracks, Cond.instanceMethod yX10_tracks, Cond.selects RX10 yX10_tracks yX10_tracks, Cond.code yX10_tracks cX10_tracks 8 (some .int), Cond.methodLink RL 108 yX11_tracks, Cond.instanceMethod yX11_tracks, Cond.selects RX11 yX11_tracks yX11_tracks, Cond.code yX11_tracks cX11_tracks 7 (some .int), Cond.methodLink RL 109 yX10_about, Cond.instanceMethod yX10_about, Cond.selects RX10 yX10_about yX10_about, Cond.code yX10_about cX10_about 2 (some .int), Cond.methodLink RL 112 yX11_about, Cond.instanceMethod yX11_about, Cond.selects RX11 yX11_about yX11_about, Cond.code yX11_about cX11_about 2 (some .int)]
def wsL_law : List Cond := (wsL_law_r1 ++ (wsL_law_r2 ++ (wsL_law_r3 ++ (wsL_law_r4 ++ (wsL_law_r5 ++ (wsL_law_r6 ++ (wsL_law_r7 ++ (wsL_law_r8 ++ (wsL_law_r9 ++ (wsL_law_r10 ++ (wsL_law_r11 ++ (wsL_law_r12 ++ (wsL_law_r13 ++ (wsL_law_r14 ++ (wsL_law_r15 ++ (wsL_law_r16 ++ (wsL_law_r17 ++ (wsL_law_r18 ++ (wsL_law_r19 ++ (wsL_law_r20 ++ (wsL_law_r21 ++ (wsL_law_r22 ++ (wsL_law_r23 ++ (wsL_law_r24 ++ (wsL_law_r25 ++ (wsL_law_r26 ++ (wsL_law_r27 ++ (wsL_law_r28 ++ (wsL_law_r29 ++ (wsL_law_r30 ++ (wsL_law_r31 ++ (wsL_law_r32 ++ (wsL_law_r33 ++ (wsL_law_r34 ++ (wsL_law_r35 ++ (wsL_law_r36 ++ (wsL_law_r37 ++ (wsL_law_r38 ++ (wsL_law_r39 ++ (wsL_law_r40 ++ (wsL_law_r41 ++ (wsL_law_r42 ++ wsL_law_r43)))))))))))))))))))))))))))))))))))))))))) ++ wsX100 ++ wsX110 ++ wsX80 ++ wsX40 ++ wsJx4a65c0 ++ wsX60 ++ wsX30 ++ wsX90 ++ wsX10 ++ wsX70 ++ wsX50 ++ wsX00 ++ ([] : List Cond)
theorem inlX0 : ∀ w ∈ wsX00, w ∈ wsL_law := fun _ h => List.mem_append_left _ (List.mem_append_right _ h)
theorem inlX1 : ∀ w ∈ wsX10, w ∈ wsL_law := fun _ h => List.mem_append_left _ (List.mem_append_left _ (List.mem_append_left _ (List.mem_append_left _ (List.mem_append_right _ h))))
theorem inlX3 : ∀ w ∈ wsX30, w ∈ wsL_law := fun _ h => List.mem_append_left _ (List.mem_append_left _ (List.mem_append_left _ (List.mem_append_left _ (List.mem_append_left _ (List.mem_append_left _ (List.mem_append_right _ h))))))
theorem inlX4 : ∀ w ∈ wsX40, w ∈ wsL_law := fun _ h => List.mem_append_left _ (List.mem_append_left _ (List.mem_append_left _ (List.mem_append_left _ (List.mem_append_left _ (List.mem_append_left _ (List.mem_append_left _ (List.mem_append_left _ (List.mem_append_left _ (List.mem_append_right _ h)))))))))
theorem inlX5 : ∀ w ∈ wsX50, w ∈ wsL_law := fun _ h => List.mem_append_left _ (List.mem_append_left _ (List.mem_append_right _ h))
theorem inlX6 : ∀ w ∈ wsX60, w ∈ wsL_law := fun _ h => List.mem_append_left _ (List.mem_append_left _ (List.mem_append_left _ (List.mem_append_left _ (List.mem_append_left _ (List.mem_append_left _ (List.mem_append_left _ (List.mem_append_right _ h)))))))
theorem inlX7 : ∀ w ∈ wsX70, w ∈ wsL_law := fun _ h => List.mem_append_left _ (List.mem_append_left _ (List.mem_append_left _ (List.mem_append_right _ h)))
theorem inlX8 : ∀ w ∈ wsX80, w ∈ wsL_law := fun _ h => List.mem_append_left _ (List.mem_append_left _ (List.mem_append_left _ (List.mem_append_left _ (List.mem_append_left _ (List.mem_append_left _ (List.mem_append_left _ (List.mem_append_left _ (List.mem_append_left _ (List.mem_append_left _ (List.mem_append_right _ h))))))))))
theorem inlX9 : ∀ w ∈ wsX90, w ∈ wsL_law := fun _ h => List.mem_append_left _ (List.mem_append_left _ (List.mem_append_left _ (List.mem_append_left _ (List.mem_append_left _ (List.mem_append_right _ h)))))
theorem inlX10 : ∀ w ∈ wsX100, w ∈ wsL_law := fun _ h => List.mem_append_left _ (List.mem_append_left _ (List.mem_append_left _ (List.mem_append_left _ (List.mem_append_left _ (List.mem_append_left _ (List.mem_append_left _ (List.mem_append_left _ (List.mem_append_left _ (List.mem_append_left _ (List.mem_append_left _ (List.mem_append_left _ (List.mem_append_right _ h))))))))))))
theorem inlX11 : ∀ w ∈ wsX110, w ∈ wsL_law := fun _ h => List.mem_append_left _ (List.mem_append_left _ (List.mem_append_left _ (List.mem_append_left _ (List.mem_append_left _ (List.mem_append_left _ (List.mem_append_left _ (List.mem_append_left _ (List.mem_append_left _ (List.mem_append_left _ (List.mem_append_left _ (List.mem_append_right _ h)))))))))))
theorem inlJx4a65c : ∀ w ∈ wsJx4a65c0, w ∈ wsL_law := fun _ h => List.mem_append_left _ (List.mem_append_left _ (List.mem_append_left _ (List.mem_append_left _ (List.mem_append_left _ (List.mem_append_left _ (List.mem_append_left _ (List.mem_append_left _ (List.mem_append_right _ h))))))))
abbrev vwCl : List vw_C := [(RJx4a65c, TJx4a65c, 3), (RX0, TX0, 6), (RX1, TX1, 3), (RX3, TX3, 6), (RX4, TX4, 4), (RX5, TX5, 8), (RX6, TX6, 8), (RX7, TX7, 6), (RX8, TX8, 2), (RX9, TX9, 5), (RX10, TX10, 9), (RX11, TX11, 45)]
