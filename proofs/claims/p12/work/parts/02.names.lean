/-! ===== BEGIN words of one list among another's, by their places ===== -/
theorem goodIn_r {big : List Cond} (ws : List Cond) (ps : List Nat) (hp : ws = ps.filterMap (fun i => big[i]?)) (h : ws.all goodWord = true) : GoodIn big ws := by
  intro w hw
  have h1 := List.all_eq_true.mp h w hw
  rw [hp] at hw
  obtain ⟨i, -, hi⟩ := List.mem_filterMap.mp hw
  have hm : w ∈ big := by first | exact List.mem_of_getElem? hi | exact List.getElem?_mem hi
  exact ⟨hm, good_of_word h1⟩
theorem goodIn_app {big a b : List Cond} (ha : GoodIn big a) (hb : GoodIn big b) : GoodIn big (a ++ b) := fun w h => (List.mem_append.mp h).elim (ha w) (hb w)
theorem goodIn_ca {big a b : List Cond} {c : Cond} (ha : GoodIn big (c :: a)) (hb : GoodIn big b) : GoodIn big (c :: (a ++ b)) := fun w h => (List.mem_cons.mp h).elim (fun e => ha w (List.mem_cons.mpr (Or.inl e))) (fun h => (List.mem_append.mp h).elim (fun h => ha w (List.mem_cons.mpr (Or.inr h))) (hb w))
theorem goodIn_sub {big ws : List Cond} (hm : ∀ w ∈ ws, w ∈ big) (h : ws.all goodWord = true) : GoodIn big ws := fun w hw => ⟨hm w hw, good_of_word (List.all_eq_true.mp h w hw)⟩
/-! ===== END ===== -/

/-! ===== BEGIN printed: names, fields, word lists, decode rows ===== -/
def RX0 : String := "FileStatus"
def TX0 : u_T := fun k => match k with
  | 0 => ("FileStatus", "organisation", "I", true)
  | 1 => ("FileStatus", "chosenMode", "I", false)
  | 2 => ("FileStatus", "isOpen", "Z", false)
  | 3 => ("FileStatus", "isOptional", "Z", false)
  | 4 => ("FileStatus", "place", "I", false)
  | 5 => ("FileStatus", "endIsNext", "Z", false)
  | 6 => ("FileStatus", "permit", "Z", false)
  | 7 => ("FileStatus", "latestStatus", "I", false)
  | 8 => ("FileStatus", "latestAct", "I", false)
  | 9 => ("FileStatus", "declaratives", "I", false)
  | 10 => ("FileStatus", "goodActs", "I", false)
  | _ => ("FileStatus", "badActsAndOpenings", "I", false)
def tyX0 : Nat → FieldType := fun k => match k with
  | 0 => .int
  | 1 => .int
  | 2 => .boolean
  | 3 => .boolean
  | 4 => .int
  | 5 => .boolean
  | 6 => .boolean
  | 7 => .int
  | 8 => .int
  | 9 => .int
  | 10 => .int
  | _ => .int
abbrev wsX00 : List Cond := u_ws RX0 TX0 12
theorem nmX0 : ∀ a, a < 12 → ∀ b, b < 12 → a ≠ b → (TX0 a).2.1 ≠ (TX0 b).2.1 := by decide +kernel
theorem tyX0_ok : ∀ k, k < 12 → parseFieldDescriptor (TX0 k).2.2.1 = some (tyX0 k) := by decide +kernel
abbrev cX0_init : ByteArray := prog_1_method_1_code
def yX0_init : MethodName := ⟨RX0, "<init>", "(I)V"⟩
abbrev cX0_mode : ByteArray := prog_1_method_2_code
def yX0_mode : MethodName := ⟨RX0, "mode", "(I)I"⟩
abbrev cX0_open : ByteArray := prog_1_method_3_code
def yX0_open : MethodName := ⟨RX0, "open", "(I)I"⟩
abbrev cX0_act : ByteArray := prog_1_method_4_code
def yX0_act : MethodName := ⟨RX0, "act", "(II)I"⟩
abbrev cX0_exception : ByteArray := prog_1_method_5_code
def yX0_exception : MethodName := ⟨RX0, "exception", "(I)I"⟩
abbrev cX0_phrase : ByteArray := prog_1_method_6_code
def yX0_phrase : MethodName := ⟨RX0, "phrase", "(Z)I"⟩
abbrev cX0_declarative : ByteArray := prog_1_method_7_code
def yX0_declarative : MethodName := ⟨RX0, "declarative", "(IZ)I"⟩
abbrev cX0_position : ByteArray := prog_1_method_8_code
def yX0_position : MethodName := ⟨RX0, "position", "(I)I"⟩
abbrev cX0_optional : ByteArray := prog_1_method_9_code
def yX0_optional : MethodName := ⟨RX0, "optional", "(Z)I"⟩
abbrev cX0_both : ByteArray := prog_1_method_10_code
def yX0_both : MethodName := ⟨RX0, "both", "(II)I"⟩
abbrev cX0_extended : ByteArray := prog_1_method_11_code
def yX0_extended : MethodName := ⟨RX0, "extended", "(I)I"⟩
abbrev cX0_area : ByteArray := prog_1_method_12_code
def yX0_area : MethodName := ⟨RX0, "area", "(I)I"⟩
abbrev cX0_count : ByteArray := prog_1_method_13_code
def yX0_count : MethodName := ⟨RX0, "count", "(I)I"⟩
abbrev cX0_statusOfOpening : ByteArray := prog_1_method_14_code
def yX0_statusOfOpening : MethodName := ⟨RX0, "statusOfOpening", "(I)I"⟩
abbrev cX0_statusOfMissingFile : ByteArray := prog_1_method_15_code
def yX0_statusOfMissingFile : MethodName := ⟨RX0, "statusOfMissingFile", "()I"⟩
abbrev cX0_statusOfAct : ByteArray := prog_1_method_16_code
def yX0_statusOfAct : MethodName := ⟨RX0, "statusOfAct", "(II)I"⟩
abbrev cX0_statusAheadOfOutcome : ByteArray := prog_1_method_17_code
def yX0_statusAheadOfOutcome : MethodName := ⟨RX0, "statusAheadOfOutcome", "(I)I"⟩
abbrev cX0_statusOfWrongMode : ByteArray := prog_1_method_18_code
def yX0_statusOfWrongMode : MethodName := ⟨RX0, "statusOfWrongMode", "(I)I"⟩
abbrev cX0_statusByOutcome : ByteArray := prog_1_method_19_code
def yX0_statusByOutcome : MethodName := ⟨RX0, "statusByOutcome", "(II)I"⟩
abbrev cX0_statusOfNoRecord : ByteArray := prog_1_method_20_code
def yX0_statusOfNoRecord : MethodName := ⟨RX0, "statusOfNoRecord", "(I)I"⟩
abbrev cX0_statusOfBarredDouble : ByteArray := prog_1_method_21_code
def yX0_statusOfBarredDouble : MethodName := ⟨RX0, "statusOfBarredDouble", "(I)I"⟩
abbrev cX0_statusOfNoRoom : ByteArray := prog_1_method_22_code
def yX0_statusOfNoRoom : MethodName := ⟨RX0, "statusOfNoRoom", "(I)I"⟩
abbrev cX0_statusOfLength : ByteArray := prog_1_method_23_code
def yX0_statusOfLength : MethodName := ⟨RX0, "statusOfLength", "(I)I"⟩
abbrev cX0_move : ByteArray := prog_1_method_24_code
def yX0_move : MethodName := ⟨RX0, "move", "(II)V"⟩
abbrev cX0_remember : ByteArray := prog_1_method_25_code
def yX0_remember : MethodName := ⟨RX0, "remember", "(II)V"⟩
abbrev cX0_hasDeclarative : ByteArray := prog_1_method_26_code
def yX0_hasDeclarative : MethodName := ⟨RX0, "hasDeclarative", "(I)Z"⟩
abbrev cX0_isForReading : ByteArray := prog_1_method_27_code
def yX0_isForReading : MethodName := ⟨RX0, "isForReading", "()Z"⟩
abbrev cX0_isForWriting : ByteArray := prog_1_method_28_code
def yX0_isForWriting : MethodName := ⟨RX0, "isForWriting", "()Z"⟩
abbrev cX0_placeAfter : ByteArray := prog_1_method_29_code
def yX0_placeAfter : MethodName := ⟨RX0, "placeAfter", "(II)I"⟩
abbrev cX0_givesPlace : ByteArray := prog_1_method_30_code
def yX0_givesPlace : MethodName := ⟨RX0, "givesPlace", "(I)Z"⟩
abbrev cX0_isRead : ByteArray := prog_1_method_31_code
def yX0_isRead : MethodName := ⟨RX0, "isRead", "(I)Z"⟩
abbrev cX0_isWriteOrRewrite : ByteArray := prog_1_method_32_code
def yX0_isWriteOrRewrite : MethodName := ⟨RX0, "isWriteOrRewrite", "(I)Z"⟩
abbrev cX0_isStatus : ByteArray := prog_1_method_33_code
def yX0_isStatus : MethodName := ⟨RX0, "isStatus", "(I)Z"⟩
def RX1 : String := "FileStatusModel"
def TX1 : u_T := fun k => match k with
  | 0 => ("FileStatusModel", "code", "I", false)
  | 1 => ("FileStatusModel", "organisation", "I", true)
  | 2 => ("FileStatusModel", "mode", "I", false)
  | 3 => ("FileStatusModel", "position", "I", false)
  | 4 => ("FileStatusModel", "latest", "I", false)
  | 5 => ("FileStatusModel", "act", "I", false)
  | 6 => ("FileStatusModel", "good", "I", false)
  | 7 => ("FileStatusModel", "bad", "I", false)
  | 8 => ("FileStatusModel", "isOpen", "Z", false)
  | 9 => ("FileStatusModel", "permit", "Z", false)
  | 10 => ("FileStatusModel", "optional", "Z", false)
  | 11 => ("FileStatusModel", "nothing", "Z", false)
  | _ => ("FileStatusModel", "declared", "[Z", true)
def tyX1 : Nat → FieldType := fun k => match k with
  | 0 => .int
  | 1 => .int
  | 2 => .int
  | 3 => .int
  | 4 => .int
  | 5 => .int
  | 6 => .int
  | 7 => .int
  | 8 => .boolean
  | 9 => .boolean
  | 10 => .boolean
  | 11 => .boolean
  | _ => .array .boolean
abbrev wsX10 : List Cond := u_ws RX1 TX1 13
theorem nmX1 : ∀ a, a < 13 → ∀ b, b < 13 → a ≠ b → (TX1 a).2.1 ≠ (TX1 b).2.1 := by decide +kernel
theorem tyX1_ok : ∀ k, k < 13 → parseFieldDescriptor (TX1 k).2.2.1 = some (tyX1 k) := by decide +kernel
def RJ9 : String := "java/lang/Math"
def TJ9 : u_T := fun k => match k with
  | _ => ("", "", "", false)
def tyJ9 : Nat → FieldType := fun k => match k with
  | _ => .int
abbrev wsJ90 : List Cond := u_ws RJ9 TJ9 0
theorem nmJ9 : ∀ a, a < 0 → ∀ b, b < 0 → a ≠ b → (TJ9 a).2.1 ≠ (TJ9 b).2.1 := by decide +kernel
theorem tyJ9_ok : ∀ k, k < 0 → parseFieldDescriptor (TJ9 k).2.2.1 = some (tyJ9 k) := by decide +kernel
abbrev cJ9_max_7cf53 : ByteArray := prog_4_method_65_code
def yJ9_max_7cf53 : MethodName := ⟨RJ9, "max", "(II)I"⟩
abbrev cJ9_min_7cf53 : ByteArray := prog_4_method_69_code
def yJ9_min_7cf53 : MethodName := ⟨RJ9, "min", "(II)I"⟩
def wsX0_init : List Cond := .code yX0_init cX0_init 2 none :: ([.methodLink RX0 1 objectInit, .instanceMethod objectInit, .code objectInit ⟨#[0xb1]⟩ 1 none, .fieldLink RX0 9 "FileStatus" "chosenMode" "I", .fieldLink RX0 13 "FileStatus" "isOpen" "Z", .fieldLink RX0 17 "FileStatus" "isOptional" "Z", .fieldLink RX0 20 "FileStatus" "place" "I", .fieldLink RX0 23 "FileStatus" "endIsNext" "Z", .fieldLink RX0 26 "FileStatus" "permit" "Z", .fieldLink RX0 29 "FileStatus" "latestStatus" "I", .fieldLink RX0 32 "FileStatus" "latestAct" "I", .fieldLink RX0 35 "FileStatus" "declaratives" "I", .fieldLink RX0 38 "FileStatus" "goodActs" "I", .fieldLink RX0 41 "FileStatus" "badActsAndOpenings" "I", .methodLink RX0 44 Lib.Math.min.name, .static Lib.Math.min.name, .initialized "java/lang/Math", .code Lib.Math.min.name Lib.Math.min.code 2 (some .int), .methodLink RX0 50 Lib.Math.max.name, .static Lib.Math.max.name, .code Lib.Math.max.name Lib.Math.max.code 2 (some .int), .fieldLink RX0 53 "FileStatus" "organisation" "I"] ++ wsX00)
def wsX0_mode : List Cond := .code yX0_mode cX0_mode 3 (some .int) :: ([.fieldLink RX0 13 "FileStatus" "isOpen" "Z", .fieldLink RX0 9 "FileStatus" "chosenMode" "I"] ++ wsX00)
def wsX0_statusOfMissingFile : List Cond := .code yX0_statusOfMissingFile cX0_statusOfMissingFile 1 (some .int) :: ([.fieldLink RX0 9 "FileStatus" "chosenMode" "I", .fieldLink RX0 17 "FileStatus" "isOptional" "Z"] ++ wsX00)
def wsX0_statusOfOpening : List Cond := .code yX0_statusOfOpening cX0_statusOfOpening 2 (some .int) :: ([.fieldLink RX0 13 "FileStatus" "isOpen" "Z", .methodLink RX0 93 yX0_statusOfMissingFile, .instanceMethod yX0_statusOfMissingFile, .selects RX0 yX0_statusOfMissingFile yX0_statusOfMissingFile, .initialized RX0, .code yX0_statusOfMissingFile cX0_statusOfMissingFile 1 (some .int), .fieldLink RX0 9 "FileStatus" "chosenMode" "I", .fieldLink RX0 17 "FileStatus" "isOptional" "Z"] ++ wsX00)
def wsX0_isForReading : List Cond := .code yX0_isForReading cX0_isForReading 1 (some .boolean) :: ([.fieldLink RX0 9 "FileStatus" "chosenMode" "I"] ++ wsX00)
def wsX0_remember : List Cond := .code yX0_remember cX0_remember 3 none :: ([.fieldLink RX0 32 "FileStatus" "latestAct" "I", .fieldLink RX0 29 "FileStatus" "latestStatus" "I", .fieldLink RX0 41 "FileStatus" "badActsAndOpenings" "I", .fieldLink RX0 38 "FileStatus" "goodActs" "I"] ++ wsX00)
def wsX0_open_r1 : List Cond := [Cond.fieldLink RX0 13 "FileStatus" "isOpen" "Z", Cond.fieldLink RX0 20 "FileStatus" "place" "I", Cond.fieldLink RX0 23 "FileStatus" "endIsNext" "Z", Cond.fieldLink RX0 26 "FileStatus" "permit" "Z", Cond.methodLink RX0 56 yX0_statusOfOpening, Cond.instanceMethod yX0_statusOfOpening, Cond.selects RX0 yX0_statusOfOpening yX0_statusOfOpening, Cond.initialized RX0, Cond.code yX0_statusOfOpening cX0_statusOfOpening 2 (some .int), Cond.methodLink RX0 93 yX0_statusOfMissingFile, Cond.instanceMethod yX0_statusOfMissingFile, Cond.selects RX0 yX0_statusOfMissingFile yX0_statusOfMissingFile, Cond.code yX0_statusOfMissingFile cX0_statusOfMissingFile 1 (some .int), Cond.fieldLink RX0 9 "FileStatus" "chosenMode" "I", Cond.fieldLink RX0 17 "FileStatus" "isOptional" "Z", Cond.methodLink RX0 60 yX0_isForReading, Cond.instanceMethod yX0_isForReading, Cond.selects RX0 yX0_isForReading yX0_isForReading, Cond.code yX0_isForReading cX0_isForReading 1 (some .boolean), Cond.methodLink RX0 64 yX0_remember, Cond.instanceMethod yX0_remember, Cond.selects RX0 yX0_remember yX0_remember, Cond.code yX0_remember cX0_remember 3 none, Cond.fieldLink RX0 32 "FileStatus" "latestAct" "I"]
def wsX0_open_r2 : List Cond := [Cond.fieldLink RX0 29 "FileStatus" "latestStatus" "I", Cond.fieldLink RX0 41 "FileStatus" "badActsAndOpenings" "I", Cond.fieldLink RX0 38 "FileStatus" "goodActs" "I"]
def wsX0_open : List Cond := .code yX0_open cX0_open 3 (some .int) :: ((wsX0_open_r1 ++ wsX0_open_r2) ++ wsX00)
def wsX0_isForWriting : List Cond := .code yX0_isForWriting cX0_isForWriting 1 (some .boolean) :: ([.fieldLink RX0 9 "FileStatus" "chosenMode" "I", .fieldLink RX0 53 "FileStatus" "organisation" "I"] ++ wsX00)
def wsX0_statusOfWrongMode : List Cond := .code yX0_statusOfWrongMode cX0_statusOfWrongMode 2 (some .int) :: ([.fieldLink RX0 9 "FileStatus" "chosenMode" "I", .methodLink RX0 60 yX0_isForReading, .instanceMethod yX0_isForReading, .selects RX0 yX0_isForReading yX0_isForReading, .initialized RX0, .code yX0_isForReading cX0_isForReading 1 (some .boolean), .methodLink RX0 106 yX0_isForWriting, .instanceMethod yX0_isForWriting, .selects RX0 yX0_isForWriting yX0_isForWriting, .code yX0_isForWriting cX0_isForWriting 1 (some .boolean), .fieldLink RX0 53 "FileStatus" "organisation" "I"] ++ wsX00)
def wsX0_statusAheadOfOutcome : List Cond := .code yX0_statusAheadOfOutcome cX0_statusAheadOfOutcome 3 (some .int) :: ([.fieldLink RX0 13 "FileStatus" "isOpen" "Z", .fieldLink RX0 53 "FileStatus" "organisation" "I", .fieldLink RX0 26 "FileStatus" "permit" "Z", .fieldLink RX0 20 "FileStatus" "place" "I", .methodLink RX0 103 yX0_statusOfWrongMode, .instanceMethod yX0_statusOfWrongMode, .selects RX0 yX0_statusOfWrongMode yX0_statusOfWrongMode, .initialized RX0, .code yX0_statusOfWrongMode cX0_statusOfWrongMode 2 (some .int), .fieldLink RX0 9 "FileStatus" "chosenMode" "I", .methodLink RX0 60 yX0_isForReading, .instanceMethod yX0_isForReading, .selects RX0 yX0_isForReading yX0_isForReading, .code yX0_isForReading cX0_isForReading 1 (some .boolean), .methodLink RX0 106 yX0_isForWriting, .instanceMethod yX0_isForWriting, .selects RX0 yX0_isForWriting yX0_isForWriting, .code yX0_isForWriting cX0_isForWriting 1 (some .boolean)] ++ wsX00)
def wsX0_statusOfNoRecord : List Cond := .code yX0_statusOfNoRecord cX0_statusOfNoRecord 2 (some .int) :: ([.fieldLink RX0 53 "FileStatus" "organisation" "I"] ++ wsX00)
def wsX0_statusOfBarredDouble : List Cond := .code yX0_statusOfBarredDouble cX0_statusOfBarredDouble 4 (some .int) :: ([.fieldLink RX0 53 "FileStatus" "organisation" "I"] ++ wsX00)
def wsX0_statusOfNoRoom : List Cond := .code yX0_statusOfNoRoom cX0_statusOfNoRoom 2 (some .int) :: ([.fieldLink RX0 53 "FileStatus" "organisation" "I"] ++ wsX00)
def wsX0_isRead : List Cond := .code yX0_isRead cX0_isRead 1 (some .boolean) :: ([])
def wsX0_isWriteOrRewrite : List Cond := .code yX0_isWriteOrRewrite cX0_isWriteOrRewrite 1 (some .boolean) :: ([])
def wsX0_statusOfLength : List Cond := .code yX0_statusOfLength cX0_statusOfLength 2 (some .int) :: ([.methodLink RX0 74 yX0_isRead, .static yX0_isRead, .initialized RX0, .code yX0_isRead cX0_isRead 1 (some .boolean), .methodLink RX0 121 yX0_isWriteOrRewrite, .static yX0_isWriteOrRewrite, .code yX0_isWriteOrRewrite cX0_isWriteOrRewrite 1 (some .boolean)])
def wsX0_statusByOutcome : List Cond := .code yX0_statusByOutcome cX0_statusByOutcome 3 (some .int) :: ([.fieldLink RX0 53 "FileStatus" "organisation" "I", .methodLink RX0 109 yX0_statusOfNoRecord, .instanceMethod yX0_statusOfNoRecord, .selects RX0 yX0_statusOfNoRecord yX0_statusOfNoRecord, .initialized RX0, .code yX0_statusOfNoRecord cX0_statusOfNoRecord 2 (some .int), .methodLink RX0 112 yX0_statusOfBarredDouble, .instanceMethod yX0_statusOfBarredDouble, .selects RX0 yX0_statusOfBarredDouble yX0_statusOfBarredDouble, .code yX0_statusOfBarredDouble cX0_statusOfBarredDouble 4 (some .int), .methodLink RX0 115 yX0_statusOfNoRoom, .instanceMethod yX0_statusOfNoRoom, .selects RX0 yX0_statusOfNoRoom yX0_statusOfNoRoom, .code yX0_statusOfNoRoom cX0_statusOfNoRoom 2 (some .int), .methodLink RX0 118 yX0_statusOfLength, .instanceMethod yX0_statusOfLength, .selects RX0 yX0_statusOfLength yX0_statusOfLength, .code yX0_statusOfLength cX0_statusOfLength 2 (some .int), .methodLink RX0 74 yX0_isRead, .static yX0_isRead, .code yX0_isRead cX0_isRead 1 (some .boolean), .methodLink RX0 121 yX0_isWriteOrRewrite, .static yX0_isWriteOrRewrite, .code yX0_isWriteOrRewrite cX0_isWriteOrRewrite 1 (some .boolean)] ++ wsX00)
def wsX0_statusOfAct_r1 : List Cond := [Cond.fieldLink RX0 23 "FileStatus" "endIsNext" "Z", Cond.methodLink RX0 97 yX0_statusAheadOfOutcome, Cond.instanceMethod yX0_statusAheadOfOutcome, Cond.selects RX0 yX0_statusAheadOfOutcome yX0_statusAheadOfOutcome, Cond.initialized RX0, Cond.code yX0_statusAheadOfOutcome cX0_statusAheadOfOutcome 3 (some .int), Cond.fieldLink RX0 13 "FileStatus" "isOpen" "Z", Cond.fieldLink RX0 53 "FileStatus" "organisation" "I", Cond.fieldLink RX0 26 "FileStatus" "permit" "Z", Cond.fieldLink RX0 20 "FileStatus" "place" "I", Cond.methodLink RX0 103 yX0_statusOfWrongMode, Cond.instanceMethod yX0_statusOfWrongMode, Cond.selects RX0 yX0_statusOfWrongMode yX0_statusOfWrongMode, Cond.code yX0_statusOfWrongMode cX0_statusOfWrongMode 2 (some .int), Cond.fieldLink RX0 9 "FileStatus" "chosenMode" "I", Cond.methodLink RX0 60 yX0_isForReading, Cond.instanceMethod yX0_isForReading, Cond.selects RX0 yX0_isForReading yX0_isForReading, Cond.code yX0_isForReading cX0_isForReading 1 (some .boolean), Cond.methodLink RX0 106 yX0_isForWriting, Cond.instanceMethod yX0_isForWriting, Cond.selects RX0 yX0_isForWriting yX0_isForWriting, Cond.code yX0_isForWriting cX0_isForWriting 1 (some .boolean), Cond.methodLink RX0 100 yX0_statusByOutcome]
def wsX0_statusOfAct_r2 : List Cond := [Cond.instanceMethod yX0_statusByOutcome, Cond.selects RX0 yX0_statusByOutcome yX0_statusByOutcome, Cond.code yX0_statusByOutcome cX0_statusByOutcome 3 (some .int), Cond.methodLink RX0 109 yX0_statusOfNoRecord, Cond.instanceMethod yX0_statusOfNoRecord, Cond.selects RX0 yX0_statusOfNoRecord yX0_statusOfNoRecord, Cond.code yX0_statusOfNoRecord cX0_statusOfNoRecord 2 (some .int), Cond.methodLink RX0 112 yX0_statusOfBarredDouble, Cond.instanceMethod yX0_statusOfBarredDouble, Cond.selects RX0 yX0_statusOfBarredDouble yX0_statusOfBarredDouble, Cond.code yX0_statusOfBarredDouble cX0_statusOfBarredDouble 4 (some .int), Cond.methodLink RX0 115 yX0_statusOfNoRoom, Cond.instanceMethod yX0_statusOfNoRoom, Cond.selects RX0 yX0_statusOfNoRoom yX0_statusOfNoRoom, Cond.code yX0_statusOfNoRoom cX0_statusOfNoRoom 2 (some .int), Cond.methodLink RX0 118 yX0_statusOfLength, Cond.instanceMethod yX0_statusOfLength, Cond.selects RX0 yX0_statusOfLength yX0_statusOfLength, Cond.code yX0_statusOfLength cX0_statusOfLength 2 (some .int), Cond.methodLink RX0 74 yX0_isRead, Cond.static yX0_isRead, Cond.code yX0_isRead cX0_isRead 1 (some .boolean), Cond.methodLink RX0 121 yX0_isWriteOrRewrite, Cond.static yX0_isWriteOrRewrite]
def wsX0_statusOfAct_r3 : List Cond := [Cond.code yX0_isWriteOrRewrite cX0_isWriteOrRewrite 1 (some .boolean)]
def wsX0_statusOfAct : List Cond := .code yX0_statusOfAct cX0_statusOfAct 4 (some .int) :: ((wsX0_statusOfAct_r1 ++ (wsX0_statusOfAct_r2 ++ wsX0_statusOfAct_r3)) ++ wsX00)
def wsX0_givesPlace : List Cond := .code yX0_givesPlace cX0_givesPlace 1 (some .boolean) :: ([])
def wsX0_placeAfter : List Cond := .code yX0_placeAfter cX0_placeAfter 2 (some .int) :: ([.methodLink RX0 78 yX0_givesPlace, .static yX0_givesPlace, .initialized RX0, .code yX0_givesPlace cX0_givesPlace 1 (some .boolean)])
def wsX0_move : List Cond := .code yX0_move cX0_move 3 none :: ([.fieldLink RX0 20 "FileStatus" "place" "I", .fieldLink RX0 13 "FileStatus" "isOpen" "Z", .methodLink RX0 74 yX0_isRead, .static yX0_isRead, .initialized RX0, .code yX0_isRead cX0_isRead 1 (some .boolean), .methodLink RX0 90 yX0_placeAfter, .static yX0_placeAfter, .code yX0_placeAfter cX0_placeAfter 2 (some .int), .methodLink RX0 78 yX0_givesPlace, .static yX0_givesPlace, .code yX0_givesPlace cX0_givesPlace 1 (some .boolean)] ++ wsX00)
def wsX0_act_r1 : List Cond := [Cond.fieldLink RX0 23 "FileStatus" "endIsNext" "Z", Cond.fieldLink RX0 26 "FileStatus" "permit" "Z", Cond.methodLink RX0 68 yX0_statusOfAct, Cond.instanceMethod yX0_statusOfAct, Cond.selects RX0 yX0_statusOfAct yX0_statusOfAct, Cond.initialized RX0, Cond.code yX0_statusOfAct cX0_statusOfAct 4 (some .int), Cond.methodLink RX0 97 yX0_statusAheadOfOutcome, Cond.instanceMethod yX0_statusAheadOfOutcome, Cond.selects RX0 yX0_statusAheadOfOutcome yX0_statusAheadOfOutcome, Cond.code yX0_statusAheadOfOutcome cX0_statusAheadOfOutcome 3 (some .int), Cond.fieldLink RX0 13 "FileStatus" "isOpen" "Z", Cond.fieldLink RX0 53 "FileStatus" "organisation" "I", Cond.fieldLink RX0 20 "FileStatus" "place" "I", Cond.methodLink RX0 103 yX0_statusOfWrongMode, Cond.instanceMethod yX0_statusOfWrongMode, Cond.selects RX0 yX0_statusOfWrongMode yX0_statusOfWrongMode, Cond.code yX0_statusOfWrongMode cX0_statusOfWrongMode 2 (some .int), Cond.fieldLink RX0 9 "FileStatus" "chosenMode" "I", Cond.methodLink RX0 60 yX0_isForReading, Cond.instanceMethod yX0_isForReading, Cond.selects RX0 yX0_isForReading yX0_isForReading, Cond.code yX0_isForReading cX0_isForReading 1 (some .boolean), Cond.methodLink RX0 106 yX0_isForWriting]
def wsX0_act_r2 : List Cond := [Cond.instanceMethod yX0_isForWriting, Cond.selects RX0 yX0_isForWriting yX0_isForWriting, Cond.code yX0_isForWriting cX0_isForWriting 1 (some .boolean), Cond.methodLink RX0 100 yX0_statusByOutcome, Cond.instanceMethod yX0_statusByOutcome, Cond.selects RX0 yX0_statusByOutcome yX0_statusByOutcome, Cond.code yX0_statusByOutcome cX0_statusByOutcome 3 (some .int), Cond.methodLink RX0 109 yX0_statusOfNoRecord, Cond.instanceMethod yX0_statusOfNoRecord, Cond.selects RX0 yX0_statusOfNoRecord yX0_statusOfNoRecord, Cond.code yX0_statusOfNoRecord cX0_statusOfNoRecord 2 (some .int), Cond.methodLink RX0 112 yX0_statusOfBarredDouble, Cond.instanceMethod yX0_statusOfBarredDouble, Cond.selects RX0 yX0_statusOfBarredDouble yX0_statusOfBarredDouble, Cond.code yX0_statusOfBarredDouble cX0_statusOfBarredDouble 4 (some .int), Cond.methodLink RX0 115 yX0_statusOfNoRoom, Cond.instanceMethod yX0_statusOfNoRoom, Cond.selects RX0 yX0_statusOfNoRoom yX0_statusOfNoRoom, Cond.code yX0_statusOfNoRoom cX0_statusOfNoRoom 2 (some .int), Cond.methodLink RX0 118 yX0_statusOfLength, Cond.instanceMethod yX0_statusOfLength, Cond.selects RX0 yX0_statusOfLength yX0_statusOfLength, Cond.code yX0_statusOfLength cX0_statusOfLength 2 (some .int), Cond.methodLink RX0 74 yX0_isRead]
def wsX0_act_r3 : List Cond := [Cond.static yX0_isRead, Cond.code yX0_isRead cX0_isRead 1 (some .boolean), Cond.methodLink RX0 121 yX0_isWriteOrRewrite, Cond.static yX0_isWriteOrRewrite, Cond.code yX0_isWriteOrRewrite cX0_isWriteOrRewrite 1 (some .boolean), Cond.methodLink RX0 71 yX0_move, Cond.instanceMethod yX0_move, Cond.selects RX0 yX0_move yX0_move, Cond.code yX0_move cX0_move 3 none, Cond.methodLink RX0 90 yX0_placeAfter, Cond.static yX0_placeAfter, Cond.code yX0_placeAfter cX0_placeAfter 2 (some .int), Cond.methodLink RX0 78 yX0_givesPlace, Cond.static yX0_givesPlace, Cond.code yX0_givesPlace cX0_givesPlace 1 (some .boolean), Cond.methodLink RX0 64 yX0_remember, Cond.instanceMethod yX0_remember, Cond.selects RX0 yX0_remember yX0_remember, Cond.code yX0_remember cX0_remember 3 none, Cond.fieldLink RX0 32 "FileStatus" "latestAct" "I", Cond.fieldLink RX0 29 "FileStatus" "latestStatus" "I", Cond.fieldLink RX0 41 "FileStatus" "badActsAndOpenings" "I", Cond.fieldLink RX0 38 "FileStatus" "goodActs" "I"]
def wsX0_act : List Cond := .code yX0_act cX0_act 4 (some .int) :: ((wsX0_act_r1 ++ (wsX0_act_r2 ++ wsX0_act_r3)) ++ wsX00)
def wsX0_isStatus : List Cond := .code yX0_isStatus cX0_isStatus 1 (some .boolean) :: ([])
def wsX0_exception : List Cond := .code yX0_exception cX0_exception 3 (some .int) :: ([.methodLink RX0 81 yX0_isStatus, .static yX0_isStatus, .initialized RX0, .code yX0_isStatus cX0_isStatus 1 (some .boolean)])
def wsX0_hasDeclarative : List Cond := .code yX0_hasDeclarative cX0_hasDeclarative 2 (some .boolean) :: ([.fieldLink RX0 35 "FileStatus" "declaratives" "I"] ++ wsX00)
def wsX0_phrase : List Cond := .code yX0_phrase cX0_phrase 4 (some .int) :: ([.fieldLink RX0 29 "FileStatus" "latestStatus" "I", .methodLink RX0 84 yX0_exception, .instanceMethod yX0_exception, .selects RX0 yX0_exception yX0_exception, .initialized RX0, .code yX0_exception cX0_exception 3 (some .int), .methodLink RX0 81 yX0_isStatus, .static yX0_isStatus, .code yX0_isStatus cX0_isStatus 1 (some .boolean), .methodLink RX0 87 yX0_hasDeclarative, .instanceMethod yX0_hasDeclarative, .selects RX0 yX0_hasDeclarative yX0_hasDeclarative, .code yX0_hasDeclarative cX0_hasDeclarative 2 (some .boolean), .fieldLink RX0 35 "FileStatus" "declaratives" "I"] ++ wsX00)
def wsX0_declarative : List Cond := .code yX0_declarative cX0_declarative 5 (some .int) :: ([.fieldLink RX0 35 "FileStatus" "declaratives" "I", .methodLink RX0 87 yX0_hasDeclarative, .instanceMethod yX0_hasDeclarative, .selects RX0 yX0_hasDeclarative yX0_hasDeclarative, .initialized RX0, .code yX0_hasDeclarative cX0_hasDeclarative 2 (some .boolean)] ++ wsX00)
def wsX0_position : List Cond := .code yX0_position cX0_position 2 (some .int) :: ([.methodLink RX0 81 yX0_isStatus, .static yX0_isStatus, .initialized RX0, .code yX0_isStatus cX0_isStatus 1 (some .boolean), .methodLink RX0 90 yX0_placeAfter, .static yX0_placeAfter, .code yX0_placeAfter cX0_placeAfter 2 (some .int), .methodLink RX0 78 yX0_givesPlace, .static yX0_givesPlace, .code yX0_givesPlace cX0_givesPlace 1 (some .boolean)])
def wsX0_optional : List Cond := .code yX0_optional cX0_optional 3 (some .int) :: ([.fieldLink RX0 13 "FileStatus" "isOpen" "Z", .fieldLink RX0 17 "FileStatus" "isOptional" "Z"] ++ wsX00)
def wsX0_both : List Cond := .code yX0_both cX0_both 5 (some .int) :: ([.methodLink RX0 44 Lib.Math.min.name, .static Lib.Math.min.name, .initialized "java/lang/Math", .code Lib.Math.min.name Lib.Math.min.code 2 (some .int), .methodLink RX0 81 yX0_isStatus, .static yX0_isStatus, .initialized RX0, .code yX0_isStatus cX0_isStatus 1 (some .boolean), .methodLink RX0 84 yX0_exception, .instanceMethod yX0_exception, .selects RX0 yX0_exception yX0_exception, .code yX0_exception cX0_exception 3 (some .int)])
def wsX0_extended : List Cond := .code yX0_extended cX0_extended 2 (some .int) :: ([.fieldLink RX0 53 "FileStatus" "organisation" "I", .fieldLink RX0 32 "FileStatus" "latestAct" "I", .methodLink RX0 81 yX0_isStatus, .static yX0_isStatus, .initialized RX0, .code yX0_isStatus cX0_isStatus 1 (some .boolean)] ++ wsX00)
def wsX0_area : List Cond := .code yX0_area cX0_area 2 (some .int) :: ([.methodLink RX0 81 yX0_isStatus, .static yX0_isStatus, .initialized RX0, .code yX0_isStatus cX0_isStatus 1 (some .boolean)])
def wsX0_count : List Cond := .code yX0_count cX0_count 2 (some .int) :: ([.fieldLink RX0 13 "FileStatus" "isOpen" "Z", .fieldLink RX0 9 "FileStatus" "chosenMode" "I", .fieldLink RX0 20 "FileStatus" "place" "I", .fieldLink RX0 26 "FileStatus" "permit" "Z", .fieldLink RX0 29 "FileStatus" "latestStatus" "I", .fieldLink RX0 38 "FileStatus" "goodActs" "I", .fieldLink RX0 41 "FileStatus" "badActsAndOpenings" "I", .fieldLink RX0 53 "FileStatus" "organisation" "I"] ++ wsX00)
def wsJ9_max_7cf53 : List Cond := .code yJ9_max_7cf53 cJ9_max_7cf53 2 (some .int) :: ([])
def wsJ9_min_7cf53 : List Cond := .code yJ9_min_7cf53 cJ9_min_7cf53 2 (some .int) :: ([])
theorem dX0_init_0 : decode cX0_init 0 = .ok (.aload_n 0, 1) := by decide +kernel
theorem dX0_init_1 : decode cX0_init 1 = .ok (.invokespecial 1, 3) := by decide +kernel
theorem dX0_init_4 : decode cX0_init 4 = .ok (.aload_n 0, 1) := by decide +kernel
theorem dX0_init_5 : decode cX0_init 5 = .ok (.iconst 0, 1) := by decide +kernel
theorem dX0_init_6 : decode cX0_init 6 = .ok (.putfield 9, 3) := by decide +kernel
theorem dX0_init_9 : decode cX0_init 9 = .ok (.aload_n 0, 1) := by decide +kernel
theorem dX0_init_10 : decode cX0_init 10 = .ok (.iconst 0, 1) := by decide +kernel
theorem dX0_init_11 : decode cX0_init 11 = .ok (.putfield 13, 3) := by decide +kernel
theorem dX0_init_14 : decode cX0_init 14 = .ok (.aload_n 0, 1) := by decide +kernel
theorem dX0_init_15 : decode cX0_init 15 = .ok (.iconst 0, 1) := by decide +kernel
theorem dX0_init_16 : decode cX0_init 16 = .ok (.putfield 17, 3) := by decide +kernel
theorem dX0_init_19 : decode cX0_init 19 = .ok (.aload_n 0, 1) := by decide +kernel
theorem dX0_init_20 : decode cX0_init 20 = .ok (.iconst 0, 1) := by decide +kernel
theorem dX0_init_21 : decode cX0_init 21 = .ok (.putfield 20, 3) := by decide +kernel
theorem dX0_init_24 : decode cX0_init 24 = .ok (.aload_n 0, 1) := by decide +kernel
theorem dX0_init_25 : decode cX0_init 25 = .ok (.iconst 0, 1) := by decide +kernel
theorem dX0_init_26 : decode cX0_init 26 = .ok (.putfield 23, 3) := by decide +kernel
theorem dX0_init_29 : decode cX0_init 29 = .ok (.aload_n 0, 1) := by decide +kernel
theorem dX0_init_30 : decode cX0_init 30 = .ok (.iconst 0, 1) := by decide +kernel
theorem dX0_init_31 : decode cX0_init 31 = .ok (.putfield 26, 3) := by decide +kernel
theorem dX0_init_34 : decode cX0_init 34 = .ok (.aload_n 0, 1) := by decide +kernel
theorem dX0_init_35 : decode cX0_init 35 = .ok (.iconst 0, 1) := by decide +kernel
theorem dX0_init_36 : decode cX0_init 36 = .ok (.putfield 29, 3) := by decide +kernel
theorem dX0_init_39 : decode cX0_init 39 = .ok (.aload_n 0, 1) := by decide +kernel
theorem dX0_init_40 : decode cX0_init 40 = .ok (.bipush 9, 2) := by decide +kernel
theorem dX0_init_42 : decode cX0_init 42 = .ok (.putfield 32, 3) := by decide +kernel
theorem dX0_init_45 : decode cX0_init 45 = .ok (.aload_n 0, 1) := by decide +kernel
theorem dX0_init_46 : decode cX0_init 46 = .ok (.iconst 0, 1) := by decide +kernel
theorem dX0_init_47 : decode cX0_init 47 = .ok (.putfield 35, 3) := by decide +kernel
theorem dX0_init_50 : decode cX0_init 50 = .ok (.aload_n 0, 1) := by decide +kernel
theorem dX0_init_51 : decode cX0_init 51 = .ok (.iconst 0, 1) := by decide +kernel
theorem dX0_init_52 : decode cX0_init 52 = .ok (.putfield 38, 3) := by decide +kernel
theorem dX0_init_55 : decode cX0_init 55 = .ok (.aload_n 0, 1) := by decide +kernel
theorem dX0_init_56 : decode cX0_init 56 = .ok (.iconst 0, 1) := by decide +kernel
theorem dX0_init_57 : decode cX0_init 57 = .ok (.putfield 41, 3) := by decide +kernel
theorem dX0_init_60 : decode cX0_init 60 = .ok (.aload_n 0, 1) := by decide +kernel
theorem dX0_init_61 : decode cX0_init 61 = .ok (.iconst 0, 1) := by decide +kernel
theorem dX0_init_62 : decode cX0_init 62 = .ok (.iconst 2, 1) := by decide +kernel
theorem dX0_init_63 : decode cX0_init 63 = .ok (.iload_n 1, 1) := by decide +kernel
theorem dX0_init_64 : decode cX0_init 64 = .ok (.invokestatic 44, 3) := by decide +kernel
theorem dX0_init_67 : decode cX0_init 67 = .ok (.invokestatic 50, 3) := by decide +kernel
theorem dX0_init_70 : decode cX0_init 70 = .ok (.putfield 53, 3) := by decide +kernel
theorem dX0_init_73 : decode cX0_init 73 = .ok (.return_, 1) := by decide +kernel
theorem dX0_mode_0 : decode cX0_mode 0 = .ok (.aload_n 0, 1) := by decide +kernel
theorem dX0_mode_1 : decode cX0_mode 1 = .ok (.getfield 13, 3) := by decide +kernel
theorem dX0_mode_4 : decode cX0_mode 4 = .ok (.ifCond .eq 6, 3) := by decide +kernel
theorem dX0_mode_7 : decode cX0_mode 7 = .ok (.bipush (-5), 2) := by decide +kernel
theorem dX0_mode_9 : decode cX0_mode 9 = .ok (.ireturn, 1) := by decide +kernel
theorem dX0_mode_10 : decode cX0_mode 10 = .ok (.iload_n 1, 1) := by decide +kernel
theorem dX0_mode_11 : decode cX0_mode 11 = .ok (.ifCond .lt 8, 3) := by decide +kernel
theorem dX0_mode_14 : decode cX0_mode 14 = .ok (.iload_n 1, 1) := by decide +kernel
theorem dX0_mode_15 : decode cX0_mode 15 = .ok (.iconst 3, 1) := by decide +kernel
theorem dX0_mode_16 : decode cX0_mode 16 = .ok (.if_icmp .le 6, 3) := by decide +kernel
theorem dX0_mode_19 : decode cX0_mode 19 = .ok (.bipush (-4), 2) := by decide +kernel
theorem dX0_mode_21 : decode cX0_mode 21 = .ok (.ireturn, 1) := by decide +kernel
theorem dX0_mode_22 : decode cX0_mode 22 = .ok (.aload_n 0, 1) := by decide +kernel
theorem dX0_mode_23 : decode cX0_mode 23 = .ok (.getfield 9, 3) := by decide +kernel
theorem dX0_mode_26 : decode cX0_mode 26 = .ok (.istore_n 2, 1) := by decide +kernel
theorem dX0_mode_27 : decode cX0_mode 27 = .ok (.aload_n 0, 1) := by decide +kernel
theorem dX0_mode_28 : decode cX0_mode 28 = .ok (.iload_n 1, 1) := by decide +kernel
theorem dX0_mode_29 : decode cX0_mode 29 = .ok (.putfield 9, 3) := by decide +kernel
theorem dX0_mode_32 : decode cX0_mode 32 = .ok (.iload_n 2, 1) := by decide +kernel
theorem dX0_mode_33 : decode cX0_mode 33 = .ok (.ireturn, 1) := by decide +kernel
set_option maxRecDepth 20000 in
theorem ggX0_open_X0_statusOfOpening : GoodIn wsX0_open wsX0_statusOfOpening := goodIn_r _ [9, 1, 10, 11, 12, 8, 13, 14, 15, 28, 29, 30, 31, 32, 33, 34, 35, 36, 37, 38, 39] (by decide +kernel) (by decide +kernel)
set_option maxRecDepth 20000 in
theorem gX0_open_X0_statusOfOpening : GoodIn wsX0_open (wsV RX0 56 RX0 yX0_statusOfOpening wsX0_statusOfOpening) := goodIn_app (goodIn_of _ (by decide +kernel)) ggX0_open_X0_statusOfOpening
set_option maxRecDepth 20000 in
theorem ggX0_open_X0_isForReading : GoodIn wsX0_open wsX0_isForReading := goodIn_r _ [19, 14, 28, 29, 30, 31, 32, 33, 34, 35, 36, 37, 38, 39] (by decide +kernel) (by decide +kernel)
set_option maxRecDepth 20000 in
theorem gX0_open_X0_isForReading : GoodIn wsX0_open (wsV RX0 60 RX0 yX0_isForReading wsX0_isForReading) := goodIn_app (goodIn_of _ (by decide +kernel)) ggX0_open_X0_isForReading
set_option maxRecDepth 20000 in
theorem ggX0_open_X0_remember : GoodIn wsX0_open wsX0_remember := goodIn_r _ [23, 24, 25, 26, 27, 28, 29, 30, 31, 32, 33, 34, 35, 36, 37, 38, 39] (by decide +kernel) (by decide +kernel)
set_option maxRecDepth 20000 in
theorem gX0_open_X0_remember : GoodIn wsX0_open (wsV RX0 64 RX0 yX0_remember wsX0_remember) := goodIn_app (goodIn_of _ (by decide +kernel)) ggX0_open_X0_remember
theorem dX0_open_0 : decode cX0_open 0 = .ok (.aload_n 0, 1) := by decide +kernel
theorem dX0_open_1 : decode cX0_open 1 = .ok (.iload_n 1, 1) := by decide +kernel
theorem dX0_open_2 : decode cX0_open 2 = .ok (.invokevirtual 56, 3) := by decide +kernel
theorem dX0_open_5 : decode cX0_open 5 = .ok (.istore_n 2, 1) := by decide +kernel
theorem dX0_open_6 : decode cX0_open 6 = .ok (.iload_n 2, 1) := by decide +kernel
theorem dX0_open_7 : decode cX0_open 7 = .ok (.ifCond .eq 8, 3) := by decide +kernel
theorem dX0_open_10 : decode cX0_open 10 = .ok (.iload_n 2, 1) := by decide +kernel
theorem dX0_open_11 : decode cX0_open 11 = .ok (.iconst 5, 1) := by decide +kernel
theorem dX0_open_12 : decode cX0_open 12 = .ok (.if_icmp .ne 34, 3) := by decide +kernel
theorem dX0_open_15 : decode cX0_open 15 = .ok (.aload_n 0, 1) := by decide +kernel
theorem dX0_open_16 : decode cX0_open 16 = .ok (.iconst 1, 1) := by decide +kernel
theorem dX0_open_17 : decode cX0_open 17 = .ok (.putfield 13, 3) := by decide +kernel
theorem dX0_open_20 : decode cX0_open 20 = .ok (.aload_n 0, 1) := by decide +kernel
theorem dX0_open_21 : decode cX0_open 21 = .ok (.iconst 0, 1) := by decide +kernel
theorem dX0_open_22 : decode cX0_open 22 = .ok (.putfield 20, 3) := by decide +kernel
theorem dX0_open_25 : decode cX0_open 25 = .ok (.aload_n 0, 1) := by decide +kernel
theorem dX0_open_26 : decode cX0_open 26 = .ok (.iload_n 2, 1) := by decide +kernel
theorem dX0_open_27 : decode cX0_open 27 = .ok (.iconst 5, 1) := by decide +kernel
theorem dX0_open_28 : decode cX0_open 28 = .ok (.if_icmp .ne 14, 3) := by decide +kernel
theorem dX0_open_31 : decode cX0_open 31 = .ok (.aload_n 0, 1) := by decide +kernel
theorem dX0_open_32 : decode cX0_open 32 = .ok (.invokevirtual 60, 3) := by decide +kernel
theorem dX0_open_35 : decode cX0_open 35 = .ok (.ifCond .eq 7, 3) := by decide +kernel
theorem dX0_open_38 : decode cX0_open 38 = .ok (.iconst 1, 1) := by decide +kernel
theorem dX0_open_39 : decode cX0_open 39 = .ok (.goto 4, 3) := by decide +kernel
theorem dX0_open_42 : decode cX0_open 42 = .ok (.iconst 0, 1) := by decide +kernel
theorem dX0_open_43 : decode cX0_open 43 = .ok (.putfield 23, 3) := by decide +kernel
theorem dX0_open_46 : decode cX0_open 46 = .ok (.aload_n 0, 1) := by decide +kernel
theorem dX0_open_47 : decode cX0_open 47 = .ok (.iconst 0, 1) := by decide +kernel
theorem dX0_open_48 : decode cX0_open 48 = .ok (.putfield 26, 3) := by decide +kernel
theorem dX0_open_51 : decode cX0_open 51 = .ok (.aload_n 0, 1) := by decide +kernel
theorem dX0_open_52 : decode cX0_open 52 = .ok (.bipush 7, 2) := by decide +kernel
theorem dX0_open_54 : decode cX0_open 54 = .ok (.iload_n 2, 1) := by decide +kernel
theorem dX0_open_55 : decode cX0_open 55 = .ok (.invokevirtual 64, 3) := by decide +kernel
theorem dX0_open_58 : decode cX0_open 58 = .ok (.iload_n 2, 1) := by decide +kernel
theorem dX0_open_59 : decode cX0_open 59 = .ok (.ireturn, 1) := by decide +kernel
set_option maxRecDepth 20000 in
theorem ggX0_act_X0_statusOfAct : GoodIn wsX0_act wsX0_statusOfAct := goodIn_r _ [7, 1, 8, 9, 10, 6, 11, 12, 13, 2, 14, 15, 16, 17, 18, 19, 20, 21, 22, 23, 24, 25, 26, 27, 28, 29, 30, 31, 32, 33, 34, 35, 36, 37, 38, 39, 40, 41, 42, 43, 44, 45, 46, 47, 48, 49, 50, 51, 52, 53, 72, 73, 74, 75, 76, 77, 78, 79, 80, 81, 82, 83] (by decide +kernel) (by decide +kernel)
set_option maxRecDepth 20000 in
theorem gX0_act_X0_statusOfAct : GoodIn wsX0_act (wsV RX0 68 RX0 yX0_statusOfAct wsX0_statusOfAct) := goodIn_app (goodIn_of _ (by decide +kernel)) ggX0_act_X0_statusOfAct
set_option maxRecDepth 20000 in
theorem ggX0_act_X0_move : GoodIn wsX0_act wsX0_move := goodIn_r _ [57, 14, 12, 48, 49, 6, 50, 58, 59, 60, 61, 62, 63, 72, 73, 74, 75, 76, 77, 78, 79, 80, 81, 82, 83] (by decide +kernel) (by decide +kernel)
set_option maxRecDepth 20000 in
theorem gX0_act_X0_move : GoodIn wsX0_act (wsV RX0 71 RX0 yX0_move wsX0_move) := goodIn_app (goodIn_of _ (by decide +kernel)) ggX0_act_X0_move
set_option maxRecDepth 20000 in
theorem ggX0_act_X0_isRead : GoodIn wsX0_act wsX0_isRead := goodIn_r _ [50] (by decide +kernel) (by decide +kernel)
set_option maxRecDepth 20000 in
theorem gX0_act_X0_isRead : GoodIn wsX0_act (va_wsS RX0 74 yX0_isRead wsX0_isRead) := goodIn_app (goodIn_of _ (by decide +kernel)) ggX0_act_X0_isRead
set_option maxRecDepth 20000 in
theorem ggX0_act_X0_givesPlace : GoodIn wsX0_act wsX0_givesPlace := goodIn_r _ [63] (by decide +kernel) (by decide +kernel)
set_option maxRecDepth 20000 in
theorem gX0_act_X0_givesPlace : GoodIn wsX0_act (va_wsS RX0 78 yX0_givesPlace wsX0_givesPlace) := goodIn_app (goodIn_of _ (by decide +kernel)) ggX0_act_X0_givesPlace
set_option maxRecDepth 20000 in
theorem ggX0_act_X0_remember : GoodIn wsX0_act wsX0_remember := goodIn_r _ [67, 68, 69, 70, 71, 72, 73, 74, 75, 76, 77, 78, 79, 80, 81, 82, 83] (by decide +kernel) (by decide +kernel)
set_option maxRecDepth 20000 in
theorem gX0_act_X0_remember : GoodIn wsX0_act (wsV RX0 64 RX0 yX0_remember wsX0_remember) := goodIn_app (goodIn_of _ (by decide +kernel)) ggX0_act_X0_remember
theorem dX0_act_0 : decode cX0_act 0 = .ok (.iload_n 1, 1) := by decide +kernel
theorem dX0_act_1 : decode cX0_act 1 = .ok (.ifCond .lt 9, 3) := by decide +kernel
theorem dX0_act_4 : decode cX0_act 4 = .ok (.iload_n 1, 1) := by decide +kernel
theorem dX0_act_5 : decode cX0_act 5 = .ok (.bipush 6, 2) := by decide +kernel
theorem dX0_act_7 : decode cX0_act 7 = .ok (.if_icmp .le 6, 3) := by decide +kernel
theorem dX0_act_10 : decode cX0_act 10 = .ok (.bipush (-4), 2) := by decide +kernel
theorem dX0_act_12 : decode cX0_act 12 = .ok (.ireturn, 1) := by decide +kernel
theorem dX0_act_13 : decode cX0_act 13 = .ok (.aload_n 0, 1) := by decide +kernel
theorem dX0_act_14 : decode cX0_act 14 = .ok (.iload_n 1, 1) := by decide +kernel
theorem dX0_act_15 : decode cX0_act 15 = .ok (.iload_n 2, 1) := by decide +kernel
theorem dX0_act_16 : decode cX0_act 16 = .ok (.invokevirtual 68, 3) := by decide +kernel
theorem dX0_act_19 : decode cX0_act 19 = .ok (.istore_n 3, 1) := by decide +kernel
theorem dX0_act_20 : decode cX0_act 20 = .ok (.iload_n 1, 1) := by decide +kernel
theorem dX0_act_21 : decode cX0_act 21 = .ok (.ifCond .ne 8, 3) := by decide +kernel
theorem dX0_act_24 : decode cX0_act 24 = .ok (.aload_n 0, 1) := by decide +kernel
theorem dX0_act_25 : decode cX0_act 25 = .ok (.iconst 0, 1) := by decide +kernel
theorem dX0_act_26 : decode cX0_act 26 = .ok (.putfield 23, 3) := by decide +kernel
theorem dX0_act_29 : decode cX0_act 29 = .ok (.aload_n 0, 1) := by decide +kernel
theorem dX0_act_30 : decode cX0_act 30 = .ok (.iload_n 1, 1) := by decide +kernel
theorem dX0_act_31 : decode cX0_act 31 = .ok (.iload_n 3, 1) := by decide +kernel
theorem dX0_act_32 : decode cX0_act 32 = .ok (.invokevirtual 71, 3) := by decide +kernel
theorem dX0_act_35 : decode cX0_act 35 = .ok (.aload_n 0, 1) := by decide +kernel
theorem dX0_act_36 : decode cX0_act 36 = .ok (.iload_n 1, 1) := by decide +kernel
theorem dX0_act_37 : decode cX0_act 37 = .ok (.invokestatic 74, 3) := by decide +kernel
theorem dX0_act_40 : decode cX0_act 40 = .ok (.ifCond .eq 14, 3) := by decide +kernel
theorem dX0_act_43 : decode cX0_act 43 = .ok (.iload_n 3, 1) := by decide +kernel
theorem dX0_act_44 : decode cX0_act 44 = .ok (.invokestatic 78, 3) := by decide +kernel
theorem dX0_act_47 : decode cX0_act 47 = .ok (.ifCond .eq 7, 3) := by decide +kernel
theorem dX0_act_50 : decode cX0_act 50 = .ok (.iconst 1, 1) := by decide +kernel
theorem dX0_act_51 : decode cX0_act 51 = .ok (.goto 4, 3) := by decide +kernel
theorem dX0_act_54 : decode cX0_act 54 = .ok (.iconst 0, 1) := by decide +kernel
theorem dX0_act_55 : decode cX0_act 55 = .ok (.putfield 26, 3) := by decide +kernel
theorem dX0_act_58 : decode cX0_act 58 = .ok (.aload_n 0, 1) := by decide +kernel
theorem dX0_act_59 : decode cX0_act 59 = .ok (.iload_n 1, 1) := by decide +kernel
theorem dX0_act_60 : decode cX0_act 60 = .ok (.iload_n 3, 1) := by decide +kernel
theorem dX0_act_61 : decode cX0_act 61 = .ok (.invokevirtual 64, 3) := by decide +kernel
theorem dX0_act_64 : decode cX0_act 64 = .ok (.iload_n 3, 1) := by decide +kernel
theorem dX0_act_65 : decode cX0_act 65 = .ok (.ireturn, 1) := by decide +kernel
set_option maxRecDepth 20000 in
theorem ggX0_exception_X0_isStatus : GoodIn wsX0_exception wsX0_isStatus := goodIn_r _ [4] (by decide +kernel) (by decide +kernel)
set_option maxRecDepth 20000 in
theorem gX0_exception_X0_isStatus : GoodIn wsX0_exception (va_wsS RX0 81 yX0_isStatus wsX0_isStatus) := goodIn_app (goodIn_of _ (by decide +kernel)) ggX0_exception_X0_isStatus
theorem dX0_exception_0 : decode cX0_exception 0 = .ok (.iload_n 1, 1) := by decide +kernel
theorem dX0_exception_1 : decode cX0_exception 1 = .ok (.invokestatic 81, 3) := by decide +kernel
theorem dX0_exception_4 : decode cX0_exception 4 = .ok (.ifCond .ne 5, 3) := by decide +kernel
theorem dX0_exception_7 : decode cX0_exception 7 = .ok (.iconst (-1), 1) := by decide +kernel
theorem dX0_exception_8 : decode cX0_exception 8 = .ok (.ireturn, 1) := by decide +kernel
theorem dX0_exception_9 : decode cX0_exception 9 = .ok (.iload_n 1, 1) := by decide +kernel
theorem dX0_exception_10 : decode cX0_exception 10 = .ok (.bipush 10, 2) := by decide +kernel
theorem dX0_exception_12 : decode cX0_exception 12 = .ok (.idiv, 1) := by decide +kernel
theorem dX0_exception_13 : decode cX0_exception 13 = .ok (.istore_n 2, 1) := by decide +kernel
theorem dX0_exception_14 : decode cX0_exception 14 = .ok (.iload_n 2, 1) := by decide +kernel
theorem dX0_exception_15 : decode cX0_exception 15 = .ok (.iconst 5, 1) := by decide +kernel
theorem dX0_exception_16 : decode cX0_exception 16 = .ok (.if_icmp .gt 5, 3) := by decide +kernel
theorem dX0_exception_19 : decode cX0_exception 19 = .ok (.iload_n 2, 1) := by decide +kernel
theorem dX0_exception_20 : decode cX0_exception 20 = .ok (.ireturn, 1) := by decide +kernel
theorem dX0_exception_21 : decode cX0_exception 21 = .ok (.iload_n 2, 1) := by decide +kernel
theorem dX0_exception_22 : decode cX0_exception 22 = .ok (.bipush 6, 2) := by decide +kernel
theorem dX0_exception_24 : decode cX0_exception 24 = .ok (.if_icmp .ne 7, 3) := by decide +kernel
theorem dX0_exception_27 : decode cX0_exception 27 = .ok (.iconst 5, 1) := by decide +kernel
theorem dX0_exception_28 : decode cX0_exception 28 = .ok (.goto 5, 3) := by decide +kernel
theorem dX0_exception_31 : decode cX0_exception 31 = .ok (.bipush 6, 2) := by decide +kernel
theorem dX0_exception_33 : decode cX0_exception 33 = .ok (.ireturn, 1) := by decide +kernel
set_option maxRecDepth 20000 in
theorem ggX0_phrase_X0_exception : GoodIn wsX0_phrase wsX0_exception := goodIn_r _ [6, 7, 8, 5, 9] (by decide +kernel) (by decide +kernel)
set_option maxRecDepth 20000 in
theorem gX0_phrase_X0_exception : GoodIn wsX0_phrase (wsV RX0 84 RX0 yX0_exception wsX0_exception) := goodIn_app (goodIn_of _ (by decide +kernel)) ggX0_phrase_X0_exception
set_option maxRecDepth 20000 in
theorem ggX0_phrase_X0_hasDeclarative : GoodIn wsX0_phrase wsX0_hasDeclarative := goodIn_r _ [13, 14, 15, 16, 17, 18, 19, 20, 21, 22, 23, 24, 25, 26] (by decide +kernel) (by decide +kernel)
set_option maxRecDepth 20000 in
theorem gX0_phrase_X0_hasDeclarative : GoodIn wsX0_phrase (wsV RX0 87 RX0 yX0_hasDeclarative wsX0_hasDeclarative) := goodIn_app (goodIn_of _ (by decide +kernel)) ggX0_phrase_X0_hasDeclarative
theorem dX0_phrase_0 : decode cX0_phrase 0 = .ok (.aload_n 0, 1) := by decide +kernel
theorem dX0_phrase_1 : decode cX0_phrase 1 = .ok (.aload_n 0, 1) := by decide +kernel
theorem dX0_phrase_2 : decode cX0_phrase 2 = .ok (.getfield 29, 3) := by decide +kernel
theorem dX0_phrase_5 : decode cX0_phrase 5 = .ok (.invokevirtual 84, 3) := by decide +kernel
theorem dX0_phrase_8 : decode cX0_phrase 8 = .ok (.istore_n 2, 1) := by decide +kernel
theorem dX0_phrase_9 : decode cX0_phrase 9 = .ok (.iload_n 2, 1) := by decide +kernel
theorem dX0_phrase_10 : decode cX0_phrase 10 = .ok (.ifCond .ne 5, 3) := by decide +kernel
theorem dX0_phrase_13 : decode cX0_phrase 13 = .ok (.iconst 0, 1) := by decide +kernel
theorem dX0_phrase_14 : decode cX0_phrase 14 = .ok (.ireturn, 1) := by decide +kernel
theorem dX0_phrase_15 : decode cX0_phrase 15 = .ok (.iload_n 2, 1) := by decide +kernel
theorem dX0_phrase_16 : decode cX0_phrase 16 = .ok (.iconst 1, 1) := by decide +kernel
theorem dX0_phrase_17 : decode cX0_phrase 17 = .ok (.if_icmp .eq 8, 3) := by decide +kernel
theorem dX0_phrase_20 : decode cX0_phrase 20 = .ok (.iload_n 2, 1) := by decide +kernel
theorem dX0_phrase_21 : decode cX0_phrase 21 = .ok (.iconst 2, 1) := by decide +kernel
theorem dX0_phrase_22 : decode cX0_phrase 22 = .ok (.if_icmp .ne 7, 3) := by decide +kernel
theorem dX0_phrase_25 : decode cX0_phrase 25 = .ok (.iconst 1, 1) := by decide +kernel
theorem dX0_phrase_26 : decode cX0_phrase 26 = .ok (.goto 4, 3) := by decide +kernel
theorem dX0_phrase_29 : decode cX0_phrase 29 = .ok (.iconst 0, 1) := by decide +kernel
theorem dX0_phrase_30 : decode cX0_phrase 30 = .ok (.istore_n 3, 1) := by decide +kernel
theorem dX0_phrase_31 : decode cX0_phrase 31 = .ok (.iload_n 3, 1) := by decide +kernel
theorem dX0_phrase_32 : decode cX0_phrase 32 = .ok (.ifCond .eq 9, 3) := by decide +kernel
theorem dX0_phrase_35 : decode cX0_phrase 35 = .ok (.iload_n 1, 1) := by decide +kernel
theorem dX0_phrase_36 : decode cX0_phrase 36 = .ok (.ifCond .eq 5, 3) := by decide +kernel
theorem dX0_phrase_39 : decode cX0_phrase 39 = .ok (.iconst 1, 1) := by decide +kernel
theorem dX0_phrase_40 : decode cX0_phrase 40 = .ok (.ireturn, 1) := by decide +kernel
theorem dX0_phrase_41 : decode cX0_phrase 41 = .ok (.aload_n 0, 1) := by decide +kernel
theorem dX0_phrase_42 : decode cX0_phrase 42 = .ok (.iload_n 2, 1) := by decide +kernel
theorem dX0_phrase_43 : decode cX0_phrase 43 = .ok (.invokevirtual 87, 3) := by decide +kernel
theorem dX0_phrase_46 : decode cX0_phrase 46 = .ok (.ifCond .eq 5, 3) := by decide +kernel
theorem dX0_phrase_49 : decode cX0_phrase 49 = .ok (.iconst 2, 1) := by decide +kernel
theorem dX0_phrase_50 : decode cX0_phrase 50 = .ok (.ireturn, 1) := by decide +kernel
theorem dX0_phrase_51 : decode cX0_phrase 51 = .ok (.iload_n 3, 1) := by decide +kernel
theorem dX0_phrase_52 : decode cX0_phrase 52 = .ok (.ifCond .eq 7, 3) := by decide +kernel
theorem dX0_phrase_55 : decode cX0_phrase 55 = .ok (.iconst 4, 1) := by decide +kernel
theorem dX0_phrase_56 : decode cX0_phrase 56 = .ok (.goto 4, 3) := by decide +kernel
theorem dX0_phrase_59 : decode cX0_phrase 59 = .ok (.iconst 3, 1) := by decide +kernel
theorem dX0_phrase_60 : decode cX0_phrase 60 = .ok (.ireturn, 1) := by decide +kernel
set_option maxRecDepth 20000 in
theorem ggX0_declarative_X0_hasDeclarative : GoodIn wsX0_declarative wsX0_hasDeclarative := goodIn_r _ [6, 1, 7, 8, 9, 10, 11, 12, 13, 14, 15, 16, 17, 18] (by decide +kernel) (by decide +kernel)
set_option maxRecDepth 20000 in
theorem gX0_declarative_X0_hasDeclarative : GoodIn wsX0_declarative (wsV RX0 87 RX0 yX0_hasDeclarative wsX0_hasDeclarative) := goodIn_app (goodIn_of _ (by decide +kernel)) ggX0_declarative_X0_hasDeclarative
theorem dX0_declarative_0 : decode cX0_declarative 0 = .ok (.iload_n 1, 1) := by decide +kernel
theorem dX0_declarative_1 : decode cX0_declarative 1 = .ok (.iconst 1, 1) := by decide +kernel
theorem dX0_declarative_2 : decode cX0_declarative 2 = .ok (.if_icmp .lt 9, 3) := by decide +kernel
theorem dX0_declarative_5 : decode cX0_declarative 5 = .ok (.iload_n 1, 1) := by decide +kernel
theorem dX0_declarative_6 : decode cX0_declarative 6 = .ok (.bipush 6, 2) := by decide +kernel
theorem dX0_declarative_8 : decode cX0_declarative 8 = .ok (.if_icmp .le 6, 3) := by decide +kernel
theorem dX0_declarative_11 : decode cX0_declarative 11 = .ok (.bipush (-4), 2) := by decide +kernel
theorem dX0_declarative_13 : decode cX0_declarative 13 = .ok (.ireturn, 1) := by decide +kernel
theorem dX0_declarative_14 : decode cX0_declarative 14 = .ok (.aload_n 0, 1) := by decide +kernel
theorem dX0_declarative_15 : decode cX0_declarative 15 = .ok (.iload_n 1, 1) := by decide +kernel
theorem dX0_declarative_16 : decode cX0_declarative 16 = .ok (.invokevirtual 87, 3) := by decide +kernel
theorem dX0_declarative_19 : decode cX0_declarative 19 = .ok (.ifCond .eq 7, 3) := by decide +kernel
theorem dX0_declarative_22 : decode cX0_declarative 22 = .ok (.iconst 1, 1) := by decide +kernel
theorem dX0_declarative_23 : decode cX0_declarative 23 = .ok (.goto 4, 3) := by decide +kernel
theorem dX0_declarative_26 : decode cX0_declarative 26 = .ok (.iconst 0, 1) := by decide +kernel
theorem dX0_declarative_27 : decode cX0_declarative 27 = .ok (.istore_n 3, 1) := by decide +kernel
theorem dX0_declarative_28 : decode cX0_declarative 28 = .ok (.iconst 1, 1) := by decide +kernel
theorem dX0_declarative_29 : decode cX0_declarative 29 = .ok (.iload_n 1, 1) := by decide +kernel
theorem dX0_declarative_30 : decode cX0_declarative 30 = .ok (.ishl, 1) := by decide +kernel
theorem dX0_declarative_31 : decode cX0_declarative 31 = .ok (.istore 4, 2) := by decide +kernel
theorem dX0_declarative_33 : decode cX0_declarative 33 = .ok (.aload_n 0, 1) := by decide +kernel
theorem dX0_declarative_34 : decode cX0_declarative 34 = .ok (.iload_n 2, 1) := by decide +kernel
theorem dX0_declarative_35 : decode cX0_declarative 35 = .ok (.ifCond .eq 13, 3) := by decide +kernel
theorem dX0_declarative_38 : decode cX0_declarative 38 = .ok (.aload_n 0, 1) := by decide +kernel
theorem dX0_declarative_39 : decode cX0_declarative 39 = .ok (.getfield 35, 3) := by decide +kernel
theorem dX0_declarative_42 : decode cX0_declarative 42 = .ok (.iload 4, 2) := by decide +kernel
theorem dX0_declarative_44 : decode cX0_declarative 44 = .ok (.ior, 1) := by decide +kernel
theorem dX0_declarative_45 : decode cX0_declarative 45 = .ok (.goto 12, 3) := by decide +kernel
theorem dX0_declarative_48 : decode cX0_declarative 48 = .ok (.aload_n 0, 1) := by decide +kernel
theorem dX0_declarative_49 : decode cX0_declarative 49 = .ok (.getfield 35, 3) := by decide +kernel
theorem dX0_declarative_52 : decode cX0_declarative 52 = .ok (.iload 4, 2) := by decide +kernel
theorem dX0_declarative_54 : decode cX0_declarative 54 = .ok (.iconst (-1), 1) := by decide +kernel
theorem dX0_declarative_55 : decode cX0_declarative 55 = .ok (.ixor, 1) := by decide +kernel
theorem dX0_declarative_56 : decode cX0_declarative 56 = .ok (.iand, 1) := by decide +kernel
theorem dX0_declarative_57 : decode cX0_declarative 57 = .ok (.putfield 35, 3) := by decide +kernel
theorem dX0_declarative_60 : decode cX0_declarative 60 = .ok (.iload_n 3, 1) := by decide +kernel
theorem dX0_declarative_61 : decode cX0_declarative 61 = .ok (.ireturn, 1) := by decide +kernel
set_option maxRecDepth 20000 in
theorem ggX0_position_X0_isStatus : GoodIn wsX0_position wsX0_isStatus := goodIn_r _ [4] (by decide +kernel) (by decide +kernel)
set_option maxRecDepth 20000 in
theorem gX0_position_X0_isStatus : GoodIn wsX0_position (va_wsS RX0 81 yX0_isStatus wsX0_isStatus) := goodIn_app (goodIn_of _ (by decide +kernel)) ggX0_position_X0_isStatus
set_option maxRecDepth 20000 in
theorem ggX0_position_X0_placeAfter : GoodIn wsX0_position wsX0_placeAfter := goodIn_r _ [7, 8, 9, 3, 10] (by decide +kernel) (by decide +kernel)
set_option maxRecDepth 20000 in
theorem gX0_position_X0_placeAfter : GoodIn wsX0_position (va_wsS RX0 90 yX0_placeAfter wsX0_placeAfter) := goodIn_app (goodIn_of _ (by decide +kernel)) ggX0_position_X0_placeAfter
theorem dX0_position_0 : decode cX0_position 0 = .ok (.iload_n 1, 1) := by decide +kernel
theorem dX0_position_1 : decode cX0_position 1 = .ok (.invokestatic 81, 3) := by decide +kernel
theorem dX0_position_4 : decode cX0_position 4 = .ok (.ifCond .ne 5, 3) := by decide +kernel
theorem dX0_position_7 : decode cX0_position 7 = .ok (.iconst (-1), 1) := by decide +kernel
theorem dX0_position_8 : decode cX0_position 8 = .ok (.ireturn, 1) := by decide +kernel
theorem dX0_position_9 : decode cX0_position 9 = .ok (.iload_n 1, 1) := by decide +kernel
theorem dX0_position_10 : decode cX0_position 10 = .ok (.iconst 0, 1) := by decide +kernel
theorem dX0_position_11 : decode cX0_position 11 = .ok (.invokestatic 90, 3) := by decide +kernel
theorem dX0_position_14 : decode cX0_position 14 = .ok (.ireturn, 1) := by decide +kernel
theorem dX0_optional_0 : decode cX0_optional 0 = .ok (.aload_n 0, 1) := by decide +kernel
theorem dX0_optional_1 : decode cX0_optional 1 = .ok (.getfield 13, 3) := by decide +kernel
theorem dX0_optional_4 : decode cX0_optional 4 = .ok (.ifCond .eq 6, 3) := by decide +kernel
theorem dX0_optional_7 : decode cX0_optional 7 = .ok (.bipush (-5), 2) := by decide +kernel
theorem dX0_optional_9 : decode cX0_optional 9 = .ok (.ireturn, 1) := by decide +kernel
theorem dX0_optional_10 : decode cX0_optional 10 = .ok (.aload_n 0, 1) := by decide +kernel
theorem dX0_optional_11 : decode cX0_optional 11 = .ok (.getfield 17, 3) := by decide +kernel
theorem dX0_optional_14 : decode cX0_optional 14 = .ok (.ifCond .eq 7, 3) := by decide +kernel
theorem dX0_optional_17 : decode cX0_optional 17 = .ok (.iconst 1, 1) := by decide +kernel
theorem dX0_optional_18 : decode cX0_optional 18 = .ok (.goto 4, 3) := by decide +kernel
theorem dX0_optional_21 : decode cX0_optional 21 = .ok (.iconst 0, 1) := by decide +kernel
theorem dX0_optional_22 : decode cX0_optional 22 = .ok (.istore_n 2, 1) := by decide +kernel
theorem dX0_optional_23 : decode cX0_optional 23 = .ok (.aload_n 0, 1) := by decide +kernel
theorem dX0_optional_24 : decode cX0_optional 24 = .ok (.iload_n 1, 1) := by decide +kernel
theorem dX0_optional_25 : decode cX0_optional 25 = .ok (.putfield 17, 3) := by decide +kernel
theorem dX0_optional_28 : decode cX0_optional 28 = .ok (.iload_n 2, 1) := by decide +kernel
theorem dX0_optional_29 : decode cX0_optional 29 = .ok (.ireturn, 1) := by decide +kernel
set_option maxRecDepth 20000 in
theorem ggX0_both_X0_isStatus : GoodIn wsX0_both wsX0_isStatus := goodIn_r _ [8] (by decide +kernel) (by decide +kernel)
set_option maxRecDepth 20000 in
theorem gX0_both_X0_isStatus : GoodIn wsX0_both (va_wsS RX0 81 yX0_isStatus wsX0_isStatus) := goodIn_app (goodIn_of _ (by decide +kernel)) ggX0_both_X0_isStatus
set_option maxRecDepth 20000 in
theorem ggX0_both_X0_exception : GoodIn wsX0_both wsX0_exception := goodIn_r _ [12, 5, 6, 7, 8] (by decide +kernel) (by decide +kernel)
set_option maxRecDepth 20000 in
theorem gX0_both_X0_exception : GoodIn wsX0_both (wsV RX0 84 RX0 yX0_exception wsX0_exception) := goodIn_app (goodIn_of _ (by decide +kernel)) ggX0_both_X0_exception
theorem dX0_both_0 : decode cX0_both 0 = .ok (.iload_n 1, 1) := by decide +kernel
theorem dX0_both_1 : decode cX0_both 1 = .ok (.invokestatic 81, 3) := by decide +kernel
theorem dX0_both_4 : decode cX0_both 4 = .ok (.ifCond .eq 10, 3) := by decide +kernel
theorem dX0_both_7 : decode cX0_both 7 = .ok (.iload_n 2, 1) := by decide +kernel
theorem dX0_both_8 : decode cX0_both 8 = .ok (.invokestatic 81, 3) := by decide +kernel
theorem dX0_both_11 : decode cX0_both 11 = .ok (.ifCond .ne 5, 3) := by decide +kernel
theorem dX0_both_14 : decode cX0_both 14 = .ok (.iconst (-1), 1) := by decide +kernel
theorem dX0_both_15 : decode cX0_both 15 = .ok (.ireturn, 1) := by decide +kernel
theorem dX0_both_16 : decode cX0_both 16 = .ok (.aload_n 0, 1) := by decide +kernel
theorem dX0_both_17 : decode cX0_both 17 = .ok (.iload_n 1, 1) := by decide +kernel
theorem dX0_both_18 : decode cX0_both 18 = .ok (.invokevirtual 84, 3) := by decide +kernel
theorem dX0_both_21 : decode cX0_both 21 = .ok (.istore_n 3, 1) := by decide +kernel
theorem dX0_both_22 : decode cX0_both 22 = .ok (.aload_n 0, 1) := by decide +kernel
theorem dX0_both_23 : decode cX0_both 23 = .ok (.iload_n 2, 1) := by decide +kernel
theorem dX0_both_24 : decode cX0_both 24 = .ok (.invokevirtual 84, 3) := by decide +kernel
theorem dX0_both_27 : decode cX0_both 27 = .ok (.istore 4, 2) := by decide +kernel
theorem dX0_both_29 : decode cX0_both 29 = .ok (.iload_n 3, 1) := by decide +kernel
theorem dX0_both_30 : decode cX0_both 30 = .ok (.iload 4, 2) := by decide +kernel
theorem dX0_both_32 : decode cX0_both 32 = .ok (.if_icmp .ne 9, 3) := by decide +kernel
theorem dX0_both_35 : decode cX0_both 35 = .ok (.iload_n 1, 1) := by decide +kernel
theorem dX0_both_36 : decode cX0_both 36 = .ok (.iload_n 2, 1) := by decide +kernel
theorem dX0_both_37 : decode cX0_both 37 = .ok (.invokestatic 44, 3) := by decide +kernel
theorem dX0_both_40 : decode cX0_both 40 = .ok (.ireturn, 1) := by decide +kernel
theorem dX0_both_41 : decode cX0_both 41 = .ok (.iload_n 3, 1) := by decide +kernel
theorem dX0_both_42 : decode cX0_both 42 = .ok (.iload 4, 2) := by decide +kernel
theorem dX0_both_44 : decode cX0_both 44 = .ok (.if_icmp .le 7, 3) := by decide +kernel
theorem dX0_both_47 : decode cX0_both 47 = .ok (.iload_n 1, 1) := by decide +kernel
theorem dX0_both_48 : decode cX0_both 48 = .ok (.goto 4, 3) := by decide +kernel
theorem dX0_both_51 : decode cX0_both 51 = .ok (.iload_n 2, 1) := by decide +kernel
theorem dX0_both_52 : decode cX0_both 52 = .ok (.ireturn, 1) := by decide +kernel
set_option maxRecDepth 20000 in
theorem ggX0_extended_X0_isStatus : GoodIn wsX0_extended wsX0_isStatus := goodIn_r _ [6] (by decide +kernel) (by decide +kernel)
set_option maxRecDepth 20000 in
theorem gX0_extended_X0_isStatus : GoodIn wsX0_extended (va_wsS RX0 81 yX0_isStatus wsX0_isStatus) := goodIn_app (goodIn_of _ (by decide +kernel)) ggX0_extended_X0_isStatus
theorem dX0_extended_0 : decode cX0_extended 0 = .ok (.iload_n 1, 1) := by decide +kernel
theorem dX0_extended_1 : decode cX0_extended 1 = .ok (.invokestatic 81, 3) := by decide +kernel
theorem dX0_extended_4 : decode cX0_extended 4 = .ok (.ifCond .ne 5, 3) := by decide +kernel
theorem dX0_extended_7 : decode cX0_extended 7 = .ok (.iconst (-1), 1) := by decide +kernel
theorem dX0_extended_8 : decode cX0_extended 8 = .ok (.ireturn, 1) := by decide +kernel
theorem dX0_extended_9 : decode cX0_extended 9 = .ok (.bipush 100, 2) := by decide +kernel
theorem dX0_extended_11 : decode cX0_extended 11 = .ok (.iload_n 1, 1) := by decide +kernel
theorem dX0_extended_12 : decode cX0_extended 12 = .ok (.imul, 1) := by decide +kernel
theorem dX0_extended_13 : decode cX0_extended 13 = .ok (.bipush 10, 2) := by decide +kernel
theorem dX0_extended_15 : decode cX0_extended 15 = .ok (.aload_n 0, 1) := by decide +kernel
theorem dX0_extended_16 : decode cX0_extended 16 = .ok (.getfield 53, 3) := by decide +kernel
theorem dX0_extended_19 : decode cX0_extended 19 = .ok (.imul, 1) := by decide +kernel
theorem dX0_extended_20 : decode cX0_extended 20 = .ok (.iadd, 1) := by decide +kernel
theorem dX0_extended_21 : decode cX0_extended 21 = .ok (.aload_n 0, 1) := by decide +kernel
theorem dX0_extended_22 : decode cX0_extended 22 = .ok (.getfield 32, 3) := by decide +kernel
theorem dX0_extended_25 : decode cX0_extended 25 = .ok (.iadd, 1) := by decide +kernel
theorem dX0_extended_26 : decode cX0_extended 26 = .ok (.ireturn, 1) := by decide +kernel
set_option maxRecDepth 20000 in
theorem ggX0_area_X0_isStatus : GoodIn wsX0_area wsX0_isStatus := goodIn_r _ [4] (by decide +kernel) (by decide +kernel)
set_option maxRecDepth 20000 in
theorem gX0_area_X0_isStatus : GoodIn wsX0_area (va_wsS RX0 81 yX0_isStatus wsX0_isStatus) := goodIn_app (goodIn_of _ (by decide +kernel)) ggX0_area_X0_isStatus
theorem dX0_area_0 : decode cX0_area 0 = .ok (.iload_n 1, 1) := by decide +kernel
theorem dX0_area_1 : decode cX0_area 1 = .ok (.invokestatic 81, 3) := by decide +kernel
theorem dX0_area_4 : decode cX0_area 4 = .ok (.ifCond .ne 5, 3) := by decide +kernel
theorem dX0_area_7 : decode cX0_area 7 = .ok (.iconst (-1), 1) := by decide +kernel
theorem dX0_area_8 : decode cX0_area 8 = .ok (.ireturn, 1) := by decide +kernel
theorem dX0_area_9 : decode cX0_area 9 = .ok (.iload_n 1, 1) := by decide +kernel
theorem dX0_area_10 : decode cX0_area 10 = .ok (.ifCond .eq 8, 3) := by decide +kernel
theorem dX0_area_13 : decode cX0_area 13 = .ok (.iload_n 1, 1) := by decide +kernel
theorem dX0_area_14 : decode cX0_area 14 = .ok (.iconst 2, 1) := by decide +kernel
theorem dX0_area_15 : decode cX0_area 15 = .ok (.if_icmp .ne 5, 3) := by decide +kernel
theorem dX0_area_18 : decode cX0_area 18 = .ok (.iconst 1, 1) := by decide +kernel
theorem dX0_area_19 : decode cX0_area 19 = .ok (.ireturn, 1) := by decide +kernel
theorem dX0_area_20 : decode cX0_area 20 = .ok (.iload_n 1, 1) := by decide +kernel
theorem dX0_area_21 : decode cX0_area 21 = .ok (.iconst 4, 1) := by decide +kernel
theorem dX0_area_22 : decode cX0_area 22 = .ok (.if_icmp .ne 7, 3) := by decide +kernel
theorem dX0_area_25 : decode cX0_area 25 = .ok (.iconst 2, 1) := by decide +kernel
theorem dX0_area_26 : decode cX0_area 26 = .ok (.goto 4, 3) := by decide +kernel
theorem dX0_area_29 : decode cX0_area 29 = .ok (.iconst 0, 1) := by decide +kernel
theorem dX0_area_30 : decode cX0_area 30 = .ok (.ireturn, 1) := by decide +kernel
theorem dX0_count_0 : decode cX0_count 0 = .ok (.iload_n 1, 1) := by decide +kernel
theorem dX0_count_1 : decode cX0_count 1 = .ok (.tableswitch 97 0 6 #[43, 59, 64, 77, 82, 87, 92], 43) := by decide +kernel
theorem dX0_count_44 : decode cX0_count 44 = .ok (.aload_n 0, 1) := by decide +kernel
theorem dX0_count_45 : decode cX0_count 45 = .ok (.getfield 13, 3) := by decide +kernel
theorem dX0_count_48 : decode cX0_count 48 = .ok (.ifCond .eq 10, 3) := by decide +kernel
theorem dX0_count_51 : decode cX0_count 51 = .ok (.aload_n 0, 1) := by decide +kernel
theorem dX0_count_52 : decode cX0_count 52 = .ok (.getfield 9, 3) := by decide +kernel
theorem dX0_count_55 : decode cX0_count 55 = .ok (.goto 4, 3) := by decide +kernel
theorem dX0_count_58 : decode cX0_count 58 = .ok (.iconst (-1), 1) := by decide +kernel
theorem dX0_count_59 : decode cX0_count 59 = .ok (.ireturn, 1) := by decide +kernel
theorem dX0_count_60 : decode cX0_count 60 = .ok (.aload_n 0, 1) := by decide +kernel
theorem dX0_count_61 : decode cX0_count 61 = .ok (.getfield 20, 3) := by decide +kernel
theorem dX0_count_64 : decode cX0_count 64 = .ok (.ireturn, 1) := by decide +kernel
theorem dX0_count_65 : decode cX0_count 65 = .ok (.aload_n 0, 1) := by decide +kernel
theorem dX0_count_66 : decode cX0_count 66 = .ok (.getfield 26, 3) := by decide +kernel
theorem dX0_count_69 : decode cX0_count 69 = .ok (.ifCond .eq 7, 3) := by decide +kernel
theorem dX0_count_72 : decode cX0_count 72 = .ok (.iconst 1, 1) := by decide +kernel
theorem dX0_count_73 : decode cX0_count 73 = .ok (.goto 4, 3) := by decide +kernel
theorem dX0_count_76 : decode cX0_count 76 = .ok (.iconst 0, 1) := by decide +kernel
theorem dX0_count_77 : decode cX0_count 77 = .ok (.ireturn, 1) := by decide +kernel
theorem dX0_count_78 : decode cX0_count 78 = .ok (.aload_n 0, 1) := by decide +kernel
theorem dX0_count_79 : decode cX0_count 79 = .ok (.getfield 29, 3) := by decide +kernel
theorem dX0_count_82 : decode cX0_count 82 = .ok (.ireturn, 1) := by decide +kernel
theorem dX0_count_83 : decode cX0_count 83 = .ok (.aload_n 0, 1) := by decide +kernel
theorem dX0_count_84 : decode cX0_count 84 = .ok (.getfield 38, 3) := by decide +kernel
theorem dX0_count_87 : decode cX0_count 87 = .ok (.ireturn, 1) := by decide +kernel
theorem dX0_count_88 : decode cX0_count 88 = .ok (.aload_n 0, 1) := by decide +kernel
theorem dX0_count_89 : decode cX0_count 89 = .ok (.getfield 41, 3) := by decide +kernel
theorem dX0_count_92 : decode cX0_count 92 = .ok (.ireturn, 1) := by decide +kernel
theorem dX0_count_93 : decode cX0_count 93 = .ok (.aload_n 0, 1) := by decide +kernel
theorem dX0_count_94 : decode cX0_count 94 = .ok (.getfield 53, 3) := by decide +kernel
theorem dX0_count_97 : decode cX0_count 97 = .ok (.ireturn, 1) := by decide +kernel
theorem dX0_count_98 : decode cX0_count 98 = .ok (.iconst (-1), 1) := by decide +kernel
theorem dX0_count_99 : decode cX0_count 99 = .ok (.ireturn, 1) := by decide +kernel
set_option maxRecDepth 20000 in
theorem ggX0_statusOfOpening_X0_statusOfMissingFile : GoodIn wsX0_statusOfOpening wsX0_statusOfMissingFile := goodIn_r _ [6, 7, 8, 9, 10, 11, 12, 13, 14, 15, 16, 17, 18, 19, 20] (by decide +kernel) (by decide +kernel)
set_option maxRecDepth 20000 in
theorem gX0_statusOfOpening_X0_statusOfMissingFile : GoodIn wsX0_statusOfOpening (wsV RX0 93 RX0 yX0_statusOfMissingFile wsX0_statusOfMissingFile) := goodIn_app (goodIn_of _ (by decide +kernel)) ggX0_statusOfOpening_X0_statusOfMissingFile
theorem dX0_statusOfOpening_0 : decode cX0_statusOfOpening 0 = .ok (.aload_n 0, 1) := by decide +kernel
theorem dX0_statusOfOpening_1 : decode cX0_statusOfOpening 1 = .ok (.getfield 13, 3) := by decide +kernel
theorem dX0_statusOfOpening_4 : decode cX0_statusOfOpening 4 = .ok (.ifCond .eq 6, 3) := by decide +kernel
theorem dX0_statusOfOpening_7 : decode cX0_statusOfOpening 7 = .ok (.bipush 41, 2) := by decide +kernel
theorem dX0_statusOfOpening_9 : decode cX0_statusOfOpening 9 = .ok (.ireturn, 1) := by decide +kernel
theorem dX0_statusOfOpening_10 : decode cX0_statusOfOpening 10 = .ok (.iload_n 1, 1) := by decide +kernel
theorem dX0_statusOfOpening_11 : decode cX0_statusOfOpening 11 = .ok (.tableswitch 63 0 6 #[41, 43, 48, 51, 54, 57, 60], 41) := by decide +kernel
theorem dX0_statusOfOpening_52 : decode cX0_statusOfOpening 52 = .ok (.iconst 0, 1) := by decide +kernel
theorem dX0_statusOfOpening_53 : decode cX0_statusOfOpening 53 = .ok (.ireturn, 1) := by decide +kernel
theorem dX0_statusOfOpening_54 : decode cX0_statusOfOpening 54 = .ok (.aload_n 0, 1) := by decide +kernel
theorem dX0_statusOfOpening_55 : decode cX0_statusOfOpening 55 = .ok (.invokevirtual 93, 3) := by decide +kernel
theorem dX0_statusOfOpening_58 : decode cX0_statusOfOpening 58 = .ok (.ireturn, 1) := by decide +kernel
theorem dX0_statusOfOpening_59 : decode cX0_statusOfOpening 59 = .ok (.bipush 37, 2) := by decide +kernel
theorem dX0_statusOfOpening_61 : decode cX0_statusOfOpening 61 = .ok (.ireturn, 1) := by decide +kernel
theorem dX0_statusOfOpening_62 : decode cX0_statusOfOpening 62 = .ok (.bipush 39, 2) := by decide +kernel
theorem dX0_statusOfOpening_64 : decode cX0_statusOfOpening 64 = .ok (.ireturn, 1) := by decide +kernel
theorem dX0_statusOfOpening_65 : decode cX0_statusOfOpening 65 = .ok (.bipush 38, 2) := by decide +kernel
theorem dX0_statusOfOpening_67 : decode cX0_statusOfOpening 67 = .ok (.ireturn, 1) := by decide +kernel
theorem dX0_statusOfOpening_68 : decode cX0_statusOfOpening 68 = .ok (.bipush 30, 2) := by decide +kernel
theorem dX0_statusOfOpening_70 : decode cX0_statusOfOpening 70 = .ok (.ireturn, 1) := by decide +kernel
theorem dX0_statusOfOpening_71 : decode cX0_statusOfOpening 71 = .ok (.bipush 61, 2) := by decide +kernel
theorem dX0_statusOfOpening_73 : decode cX0_statusOfOpening 73 = .ok (.ireturn, 1) := by decide +kernel
theorem dX0_statusOfOpening_74 : decode cX0_statusOfOpening 74 = .ok (.bipush 90, 2) := by decide +kernel
theorem dX0_statusOfOpening_76 : decode cX0_statusOfOpening 76 = .ok (.ireturn, 1) := by decide +kernel
theorem dX0_statusOfMissingFile_0 : decode cX0_statusOfMissingFile 0 = .ok (.aload_n 0, 1) := by decide +kernel
theorem dX0_statusOfMissingFile_1 : decode cX0_statusOfMissingFile 1 = .ok (.getfield 9, 3) := by decide +kernel
theorem dX0_statusOfMissingFile_4 : decode cX0_statusOfMissingFile 4 = .ok (.iconst 1, 1) := by decide +kernel
theorem dX0_statusOfMissingFile_5 : decode cX0_statusOfMissingFile 5 = .ok (.if_icmp .ne 5, 3) := by decide +kernel
theorem dX0_statusOfMissingFile_8 : decode cX0_statusOfMissingFile 8 = .ok (.iconst 0, 1) := by decide +kernel
theorem dX0_statusOfMissingFile_9 : decode cX0_statusOfMissingFile 9 = .ok (.ireturn, 1) := by decide +kernel
theorem dX0_statusOfMissingFile_10 : decode cX0_statusOfMissingFile 10 = .ok (.aload_n 0, 1) := by decide +kernel
theorem dX0_statusOfMissingFile_11 : decode cX0_statusOfMissingFile 11 = .ok (.getfield 17, 3) := by decide +kernel
theorem dX0_statusOfMissingFile_14 : decode cX0_statusOfMissingFile 14 = .ok (.ifCond .eq 7, 3) := by decide +kernel
theorem dX0_statusOfMissingFile_17 : decode cX0_statusOfMissingFile 17 = .ok (.iconst 5, 1) := by decide +kernel
theorem dX0_statusOfMissingFile_18 : decode cX0_statusOfMissingFile 18 = .ok (.goto 5, 3) := by decide +kernel
theorem dX0_statusOfMissingFile_21 : decode cX0_statusOfMissingFile 21 = .ok (.bipush 35, 2) := by decide +kernel
theorem dX0_statusOfMissingFile_23 : decode cX0_statusOfMissingFile 23 = .ok (.ireturn, 1) := by decide +kernel
set_option maxRecDepth 20000 in
theorem ggX0_statusOfAct_X0_statusAheadOfOutcome : GoodIn wsX0_statusOfAct wsX0_statusAheadOfOutcome := goodIn_r _ [6, 7, 8, 9, 10, 11, 12, 13, 5, 14, 15, 16, 17, 18, 19, 20, 21, 22, 23, 50, 51, 52, 53, 54, 55, 56, 57, 58, 59, 60, 61] (by decide +kernel) (by decide +kernel)
set_option maxRecDepth 20000 in
theorem gX0_statusOfAct_X0_statusAheadOfOutcome : GoodIn wsX0_statusOfAct (wsV RX0 97 RX0 yX0_statusAheadOfOutcome wsX0_statusAheadOfOutcome) := goodIn_app (goodIn_of _ (by decide +kernel)) ggX0_statusOfAct_X0_statusAheadOfOutcome
set_option maxRecDepth 20000 in
theorem ggX0_statusOfAct_X0_statusByOutcome : GoodIn wsX0_statusOfAct wsX0_statusByOutcome := goodIn_r _ [27, 8, 28, 29, 30, 5, 31, 32, 33, 34, 35, 36, 37, 38, 39, 40, 41, 42, 43, 44, 45, 46, 47, 48, 49, 50, 51, 52, 53, 54, 55, 56, 57, 58, 59, 60, 61] (by decide +kernel) (by decide +kernel)
set_option maxRecDepth 20000 in
theorem gX0_statusOfAct_X0_statusByOutcome : GoodIn wsX0_statusOfAct (wsV RX0 100 RX0 yX0_statusByOutcome wsX0_statusByOutcome) := goodIn_app (goodIn_of _ (by decide +kernel)) ggX0_statusOfAct_X0_statusByOutcome
theorem dX0_statusOfAct_0 : decode cX0_statusOfAct 0 = .ok (.aload_n 0, 1) := by decide +kernel
theorem dX0_statusOfAct_1 : decode cX0_statusOfAct 1 = .ok (.iload_n 1, 1) := by decide +kernel
theorem dX0_statusOfAct_2 : decode cX0_statusOfAct 2 = .ok (.invokevirtual 97, 3) := by decide +kernel
theorem dX0_statusOfAct_5 : decode cX0_statusOfAct 5 = .ok (.istore_n 3, 1) := by decide +kernel
theorem dX0_statusOfAct_6 : decode cX0_statusOfAct 6 = .ok (.iload_n 3, 1) := by decide +kernel
theorem dX0_statusOfAct_7 : decode cX0_statusOfAct 7 = .ok (.iconst (-1), 1) := by decide +kernel
theorem dX0_statusOfAct_8 : decode cX0_statusOfAct 8 = .ok (.if_icmp .eq 5, 3) := by decide +kernel
theorem dX0_statusOfAct_11 : decode cX0_statusOfAct 11 = .ok (.iload_n 3, 1) := by decide +kernel
theorem dX0_statusOfAct_12 : decode cX0_statusOfAct 12 = .ok (.ireturn, 1) := by decide +kernel
theorem dX0_statusOfAct_13 : decode cX0_statusOfAct 13 = .ok (.iload_n 1, 1) := by decide +kernel
theorem dX0_statusOfAct_14 : decode cX0_statusOfAct 14 = .ok (.ifCond .ne 13, 3) := by decide +kernel
theorem dX0_statusOfAct_17 : decode cX0_statusOfAct 17 = .ok (.aload_n 0, 1) := by decide +kernel
theorem dX0_statusOfAct_18 : decode cX0_statusOfAct 18 = .ok (.getfield 23, 3) := by decide +kernel
theorem dX0_statusOfAct_21 : decode cX0_statusOfAct 21 = .ok (.ifCond .eq 6, 3) := by decide +kernel
theorem dX0_statusOfAct_24 : decode cX0_statusOfAct 24 = .ok (.bipush 10, 2) := by decide +kernel
theorem dX0_statusOfAct_26 : decode cX0_statusOfAct 26 = .ok (.ireturn, 1) := by decide +kernel
theorem dX0_statusOfAct_27 : decode cX0_statusOfAct 27 = .ok (.aload_n 0, 1) := by decide +kernel
theorem dX0_statusOfAct_28 : decode cX0_statusOfAct 28 = .ok (.iload_n 1, 1) := by decide +kernel
theorem dX0_statusOfAct_29 : decode cX0_statusOfAct 29 = .ok (.iload_n 2, 1) := by decide +kernel
theorem dX0_statusOfAct_30 : decode cX0_statusOfAct 30 = .ok (.invokevirtual 100, 3) := by decide +kernel
theorem dX0_statusOfAct_33 : decode cX0_statusOfAct 33 = .ok (.ireturn, 1) := by decide +kernel
set_option maxRecDepth 20000 in
theorem ggX0_statusAheadOfOutcome_X0_statusOfWrongMode : GoodIn wsX0_statusAheadOfOutcome wsX0_statusOfWrongMode := goodIn_r _ [9, 10, 11, 12, 13, 8, 14, 15, 16, 17, 18, 2, 19, 20, 21, 22, 23, 24, 25, 26, 27, 28, 29, 30] (by decide +kernel) (by decide +kernel)
set_option maxRecDepth 20000 in
theorem gX0_statusAheadOfOutcome_X0_statusOfWrongMode : GoodIn wsX0_statusAheadOfOutcome (wsV RX0 103 RX0 yX0_statusOfWrongMode wsX0_statusOfWrongMode) := goodIn_app (goodIn_of _ (by decide +kernel)) ggX0_statusAheadOfOutcome_X0_statusOfWrongMode
theorem dX0_statusAheadOfOutcome_0 : decode cX0_statusAheadOfOutcome 0 = .ok (.aload_n 0, 1) := by decide +kernel
theorem dX0_statusAheadOfOutcome_1 : decode cX0_statusAheadOfOutcome 1 = .ok (.getfield 13, 3) := by decide +kernel
theorem dX0_statusAheadOfOutcome_4 : decode cX0_statusAheadOfOutcome 4 = .ok (.ifCond .ne 6, 3) := by decide +kernel
theorem dX0_statusAheadOfOutcome_7 : decode cX0_statusAheadOfOutcome 7 = .ok (.bipush 42, 2) := by decide +kernel
theorem dX0_statusAheadOfOutcome_9 : decode cX0_statusAheadOfOutcome 9 = .ok (.ireturn, 1) := by decide +kernel
theorem dX0_statusAheadOfOutcome_10 : decode cX0_statusAheadOfOutcome 10 = .ok (.aload_n 0, 1) := by decide +kernel
theorem dX0_statusAheadOfOutcome_11 : decode cX0_statusAheadOfOutcome 11 = .ok (.getfield 53, 3) := by decide +kernel
theorem dX0_statusAheadOfOutcome_14 : decode cX0_statusAheadOfOutcome 14 = .ok (.ifCond .ne 21, 3) := by decide +kernel
theorem dX0_statusAheadOfOutcome_17 : decode cX0_statusAheadOfOutcome 17 = .ok (.iload_n 1, 1) := by decide +kernel
theorem dX0_statusAheadOfOutcome_18 : decode cX0_statusAheadOfOutcome 18 = .ok (.iconst 1, 1) := by decide +kernel
theorem dX0_statusAheadOfOutcome_19 : decode cX0_statusAheadOfOutcome 19 = .ok (.if_icmp .eq 13, 3) := by decide +kernel
theorem dX0_statusAheadOfOutcome_22 : decode cX0_statusAheadOfOutcome 22 = .ok (.iload_n 1, 1) := by decide +kernel
theorem dX0_statusAheadOfOutcome_23 : decode cX0_statusAheadOfOutcome 23 = .ok (.iconst 4, 1) := by decide +kernel
theorem dX0_statusAheadOfOutcome_24 : decode cX0_statusAheadOfOutcome 24 = .ok (.if_icmp .eq 8, 3) := by decide +kernel
theorem dX0_statusAheadOfOutcome_27 : decode cX0_statusAheadOfOutcome 27 = .ok (.iload_n 1, 1) := by decide +kernel
theorem dX0_statusAheadOfOutcome_28 : decode cX0_statusAheadOfOutcome 28 = .ok (.iconst 5, 1) := by decide +kernel
theorem dX0_statusAheadOfOutcome_29 : decode cX0_statusAheadOfOutcome 29 = .ok (.if_icmp .ne 6, 3) := by decide +kernel
theorem dX0_statusAheadOfOutcome_32 : decode cX0_statusAheadOfOutcome 32 = .ok (.bipush 90, 2) := by decide +kernel
theorem dX0_statusAheadOfOutcome_34 : decode cX0_statusAheadOfOutcome 34 = .ok (.ireturn, 1) := by decide +kernel
theorem dX0_statusAheadOfOutcome_35 : decode cX0_statusAheadOfOutcome 35 = .ok (.aload_n 0, 1) := by decide +kernel
theorem dX0_statusAheadOfOutcome_36 : decode cX0_statusAheadOfOutcome 36 = .ok (.iload_n 1, 1) := by decide +kernel
theorem dX0_statusAheadOfOutcome_37 : decode cX0_statusAheadOfOutcome 37 = .ok (.invokevirtual 103, 3) := by decide +kernel
theorem dX0_statusAheadOfOutcome_40 : decode cX0_statusAheadOfOutcome 40 = .ok (.istore_n 2, 1) := by decide +kernel
theorem dX0_statusAheadOfOutcome_41 : decode cX0_statusAheadOfOutcome 41 = .ok (.iload_n 2, 1) := by decide +kernel
theorem dX0_statusAheadOfOutcome_42 : decode cX0_statusAheadOfOutcome 42 = .ok (.iconst (-1), 1) := by decide +kernel
theorem dX0_statusAheadOfOutcome_43 : decode cX0_statusAheadOfOutcome 43 = .ok (.if_icmp .eq 5, 3) := by decide +kernel
theorem dX0_statusAheadOfOutcome_46 : decode cX0_statusAheadOfOutcome 46 = .ok (.iload_n 2, 1) := by decide +kernel
theorem dX0_statusAheadOfOutcome_47 : decode cX0_statusAheadOfOutcome 47 = .ok (.ireturn, 1) := by decide +kernel
theorem dX0_statusAheadOfOutcome_48 : decode cX0_statusAheadOfOutcome 48 = .ok (.iload_n 1, 1) := by decide +kernel
theorem dX0_statusAheadOfOutcome_49 : decode cX0_statusAheadOfOutcome 49 = .ok (.iconst 3, 1) := by decide +kernel
theorem dX0_statusAheadOfOutcome_50 : decode cX0_statusAheadOfOutcome 50 = .ok (.if_icmp .ne 20, 3) := by decide +kernel
theorem dX0_statusAheadOfOutcome_53 : decode cX0_statusAheadOfOutcome 53 = .ok (.aload_n 0, 1) := by decide +kernel
theorem dX0_statusAheadOfOutcome_54 : decode cX0_statusAheadOfOutcome 54 = .ok (.getfield 53, 3) := by decide +kernel
theorem dX0_statusAheadOfOutcome_57 : decode cX0_statusAheadOfOutcome 57 = .ok (.ifCond .ne 13, 3) := by decide +kernel
theorem dX0_statusAheadOfOutcome_60 : decode cX0_statusAheadOfOutcome 60 = .ok (.aload_n 0, 1) := by decide +kernel
theorem dX0_statusAheadOfOutcome_61 : decode cX0_statusAheadOfOutcome 61 = .ok (.getfield 26, 3) := by decide +kernel
theorem dX0_statusAheadOfOutcome_64 : decode cX0_statusAheadOfOutcome 64 = .ok (.ifCond .ne 6, 3) := by decide +kernel
theorem dX0_statusAheadOfOutcome_67 : decode cX0_statusAheadOfOutcome 67 = .ok (.bipush 43, 2) := by decide +kernel
theorem dX0_statusAheadOfOutcome_69 : decode cX0_statusAheadOfOutcome 69 = .ok (.ireturn, 1) := by decide +kernel
theorem dX0_statusAheadOfOutcome_70 : decode cX0_statusAheadOfOutcome 70 = .ok (.iload_n 1, 1) := by decide +kernel
theorem dX0_statusAheadOfOutcome_71 : decode cX0_statusAheadOfOutcome 71 = .ok (.ifCond .ne 22, 3) := by decide +kernel
theorem dX0_statusAheadOfOutcome_74 : decode cX0_statusAheadOfOutcome 74 = .ok (.aload_n 0, 1) := by decide +kernel
theorem dX0_statusAheadOfOutcome_75 : decode cX0_statusAheadOfOutcome 75 = .ok (.getfield 20, 3) := by decide +kernel
theorem dX0_statusAheadOfOutcome_78 : decode cX0_statusAheadOfOutcome 78 = .ok (.iconst 2, 1) := by decide +kernel
theorem dX0_statusAheadOfOutcome_79 : decode cX0_statusAheadOfOutcome 79 = .ok (.if_icmp .eq 11, 3) := by decide +kernel
theorem dX0_statusAheadOfOutcome_82 : decode cX0_statusAheadOfOutcome 82 = .ok (.aload_n 0, 1) := by decide +kernel
theorem dX0_statusAheadOfOutcome_83 : decode cX0_statusAheadOfOutcome 83 = .ok (.getfield 20, 3) := by decide +kernel
theorem dX0_statusAheadOfOutcome_86 : decode cX0_statusAheadOfOutcome 86 = .ok (.iconst 3, 1) := by decide +kernel
theorem dX0_statusAheadOfOutcome_87 : decode cX0_statusAheadOfOutcome 87 = .ok (.if_icmp .ne 6, 3) := by decide +kernel
theorem dX0_statusAheadOfOutcome_90 : decode cX0_statusAheadOfOutcome 90 = .ok (.bipush 46, 2) := by decide +kernel
theorem dX0_statusAheadOfOutcome_92 : decode cX0_statusAheadOfOutcome 92 = .ok (.ireturn, 1) := by decide +kernel
theorem dX0_statusAheadOfOutcome_93 : decode cX0_statusAheadOfOutcome 93 = .ok (.iconst (-1), 1) := by decide +kernel
theorem dX0_statusAheadOfOutcome_94 : decode cX0_statusAheadOfOutcome 94 = .ok (.ireturn, 1) := by decide +kernel
set_option maxRecDepth 20000 in
theorem ggX0_statusOfWrongMode_X0_isForReading : GoodIn wsX0_statusOfWrongMode wsX0_isForReading := goodIn_r _ [6, 1, 12, 13, 14, 15, 16, 17, 18, 19, 20, 21, 22, 23] (by decide +kernel) (by decide +kernel)
set_option maxRecDepth 20000 in
theorem gX0_statusOfWrongMode_X0_isForReading : GoodIn wsX0_statusOfWrongMode (wsV RX0 60 RX0 yX0_isForReading wsX0_isForReading) := goodIn_app (goodIn_of _ (by decide +kernel)) ggX0_statusOfWrongMode_X0_isForReading
set_option maxRecDepth 20000 in
theorem ggX0_statusOfWrongMode_X0_isForWriting : GoodIn wsX0_statusOfWrongMode wsX0_isForWriting := goodIn_r _ [10, 1, 11, 12, 13, 14, 15, 16, 17, 18, 19, 20, 21, 22, 23] (by decide +kernel) (by decide +kernel)
set_option maxRecDepth 20000 in
theorem gX0_statusOfWrongMode_X0_isForWriting : GoodIn wsX0_statusOfWrongMode (wsV RX0 106 RX0 yX0_isForWriting wsX0_isForWriting) := goodIn_app (goodIn_of _ (by decide +kernel)) ggX0_statusOfWrongMode_X0_isForWriting
theorem dX0_statusOfWrongMode_0 : decode cX0_statusOfWrongMode 0 = .ok (.iload_n 1, 1) := by decide +kernel
theorem dX0_statusOfWrongMode_1 : decode cX0_statusOfWrongMode 1 = .ok (.tableswitch 82 0 5 #[39, 39, 53, 67, 67, 39], 39) := by decide +kernel
theorem dX0_statusOfWrongMode_40 : decode cX0_statusOfWrongMode 40 = .ok (.aload_n 0, 1) := by decide +kernel
theorem dX0_statusOfWrongMode_41 : decode cX0_statusOfWrongMode 41 = .ok (.invokevirtual 60, 3) := by decide +kernel
theorem dX0_statusOfWrongMode_44 : decode cX0_statusOfWrongMode 44 = .ok (.ifCond .eq 7, 3) := by decide +kernel
theorem dX0_statusOfWrongMode_47 : decode cX0_statusOfWrongMode 47 = .ok (.iconst (-1), 1) := by decide +kernel
theorem dX0_statusOfWrongMode_48 : decode cX0_statusOfWrongMode 48 = .ok (.goto 5, 3) := by decide +kernel
theorem dX0_statusOfWrongMode_51 : decode cX0_statusOfWrongMode 51 = .ok (.bipush 47, 2) := by decide +kernel
theorem dX0_statusOfWrongMode_53 : decode cX0_statusOfWrongMode 53 = .ok (.ireturn, 1) := by decide +kernel
theorem dX0_statusOfWrongMode_54 : decode cX0_statusOfWrongMode 54 = .ok (.aload_n 0, 1) := by decide +kernel
theorem dX0_statusOfWrongMode_55 : decode cX0_statusOfWrongMode 55 = .ok (.invokevirtual 106, 3) := by decide +kernel
theorem dX0_statusOfWrongMode_58 : decode cX0_statusOfWrongMode 58 = .ok (.ifCond .eq 7, 3) := by decide +kernel
theorem dX0_statusOfWrongMode_61 : decode cX0_statusOfWrongMode 61 = .ok (.iconst (-1), 1) := by decide +kernel
theorem dX0_statusOfWrongMode_62 : decode cX0_statusOfWrongMode 62 = .ok (.goto 5, 3) := by decide +kernel
theorem dX0_statusOfWrongMode_65 : decode cX0_statusOfWrongMode 65 = .ok (.bipush 48, 2) := by decide +kernel
theorem dX0_statusOfWrongMode_67 : decode cX0_statusOfWrongMode 67 = .ok (.ireturn, 1) := by decide +kernel
theorem dX0_statusOfWrongMode_68 : decode cX0_statusOfWrongMode 68 = .ok (.aload_n 0, 1) := by decide +kernel
theorem dX0_statusOfWrongMode_69 : decode cX0_statusOfWrongMode 69 = .ok (.getfield 9, 3) := by decide +kernel
theorem dX0_statusOfWrongMode_72 : decode cX0_statusOfWrongMode 72 = .ok (.iconst 2, 1) := by decide +kernel
theorem dX0_statusOfWrongMode_73 : decode cX0_statusOfWrongMode 73 = .ok (.if_icmp .ne 7, 3) := by decide +kernel
theorem dX0_statusOfWrongMode_76 : decode cX0_statusOfWrongMode 76 = .ok (.iconst (-1), 1) := by decide +kernel
theorem dX0_statusOfWrongMode_77 : decode cX0_statusOfWrongMode 77 = .ok (.goto 5, 3) := by decide +kernel
theorem dX0_statusOfWrongMode_80 : decode cX0_statusOfWrongMode 80 = .ok (.bipush 49, 2) := by decide +kernel
theorem dX0_statusOfWrongMode_82 : decode cX0_statusOfWrongMode 82 = .ok (.ireturn, 1) := by decide +kernel
theorem dX0_statusOfWrongMode_83 : decode cX0_statusOfWrongMode 83 = .ok (.iconst (-1), 1) := by decide +kernel
theorem dX0_statusOfWrongMode_84 : decode cX0_statusOfWrongMode 84 = .ok (.ireturn, 1) := by decide +kernel
set_option maxRecDepth 20000 in
theorem ggX0_statusByOutcome_X0_statusOfNoRecord : GoodIn wsX0_statusByOutcome wsX0_statusOfNoRecord := goodIn_r _ [6, 1, 25, 26, 27, 28, 29, 30, 31, 32, 33, 34, 35, 36] (by decide +kernel) (by decide +kernel)
set_option maxRecDepth 20000 in
theorem gX0_statusByOutcome_X0_statusOfNoRecord : GoodIn wsX0_statusByOutcome (wsV RX0 109 RX0 yX0_statusOfNoRecord wsX0_statusOfNoRecord) := goodIn_app (goodIn_of _ (by decide +kernel)) ggX0_statusByOutcome_X0_statusOfNoRecord
set_option maxRecDepth 20000 in
theorem ggX0_statusByOutcome_X0_statusOfBarredDouble : GoodIn wsX0_statusByOutcome wsX0_statusOfBarredDouble := goodIn_r _ [10, 1, 25, 26, 27, 28, 29, 30, 31, 32, 33, 34, 35, 36] (by decide +kernel) (by decide +kernel)
set_option maxRecDepth 20000 in
theorem gX0_statusByOutcome_X0_statusOfBarredDouble : GoodIn wsX0_statusByOutcome (wsV RX0 112 RX0 yX0_statusOfBarredDouble wsX0_statusOfBarredDouble) := goodIn_app (goodIn_of _ (by decide +kernel)) ggX0_statusByOutcome_X0_statusOfBarredDouble
set_option maxRecDepth 20000 in
theorem ggX0_statusByOutcome_X0_statusOfNoRoom : GoodIn wsX0_statusByOutcome wsX0_statusOfNoRoom := goodIn_r _ [14, 1, 25, 26, 27, 28, 29, 30, 31, 32, 33, 34, 35, 36] (by decide +kernel) (by decide +kernel)
set_option maxRecDepth 20000 in
theorem gX0_statusByOutcome_X0_statusOfNoRoom : GoodIn wsX0_statusByOutcome (wsV RX0 115 RX0 yX0_statusOfNoRoom wsX0_statusOfNoRoom) := goodIn_app (goodIn_of _ (by decide +kernel)) ggX0_statusByOutcome_X0_statusOfNoRoom
set_option maxRecDepth 20000 in
theorem ggX0_statusByOutcome_X0_statusOfLength : GoodIn wsX0_statusByOutcome wsX0_statusOfLength := goodIn_r _ [18, 19, 20, 5, 21, 22, 23, 24] (by decide +kernel) (by decide +kernel)
set_option maxRecDepth 20000 in
theorem gX0_statusByOutcome_X0_statusOfLength : GoodIn wsX0_statusByOutcome (wsV RX0 118 RX0 yX0_statusOfLength wsX0_statusOfLength) := goodIn_app (goodIn_of _ (by decide +kernel)) ggX0_statusByOutcome_X0_statusOfLength
set_option maxRecDepth 20000 in
theorem ggX0_statusByOutcome_X0_isWriteOrRewrite : GoodIn wsX0_statusByOutcome wsX0_isWriteOrRewrite := goodIn_r _ [24] (by decide +kernel) (by decide +kernel)
set_option maxRecDepth 20000 in
theorem gX0_statusByOutcome_X0_isWriteOrRewrite : GoodIn wsX0_statusByOutcome (va_wsS RX0 121 yX0_isWriteOrRewrite wsX0_isWriteOrRewrite) := goodIn_app (goodIn_of _ (by decide +kernel)) ggX0_statusByOutcome_X0_isWriteOrRewrite
theorem dX0_statusByOutcome_0 : decode cX0_statusByOutcome 0 = .ok (.iload_n 2, 1) := by decide +kernel
theorem dX0_statusByOutcome_1 : decode cX0_statusByOutcome 1 = .ok (.tableswitch 137 0 8 #[51, 53, 59, 79, 85, 91, 94, 108, 114], 51) := by decide +kernel
theorem dX0_statusByOutcome_52 : decode cX0_statusByOutcome 52 = .ok (.iconst 0, 1) := by decide +kernel
theorem dX0_statusByOutcome_53 : decode cX0_statusByOutcome 53 = .ok (.ireturn, 1) := by decide +kernel
theorem dX0_statusByOutcome_54 : decode cX0_statusByOutcome 54 = .ok (.aload_n 0, 1) := by decide +kernel
theorem dX0_statusByOutcome_55 : decode cX0_statusByOutcome 55 = .ok (.iload_n 1, 1) := by decide +kernel
theorem dX0_statusByOutcome_56 : decode cX0_statusByOutcome 56 = .ok (.invokevirtual 109, 3) := by decide +kernel
theorem dX0_statusByOutcome_59 : decode cX0_statusByOutcome 59 = .ok (.ireturn, 1) := by decide +kernel
theorem dX0_statusByOutcome_60 : decode cX0_statusByOutcome 60 = .ok (.aload_n 0, 1) := by decide +kernel
theorem dX0_statusByOutcome_61 : decode cX0_statusByOutcome 61 = .ok (.getfield 53, 3) := by decide +kernel
theorem dX0_statusByOutcome_64 : decode cX0_statusByOutcome 64 = .ok (.iconst 2, 1) := by decide +kernel
theorem dX0_statusByOutcome_65 : decode cX0_statusByOutcome 65 = .ok (.if_icmp .ne 12, 3) := by decide +kernel
theorem dX0_statusByOutcome_68 : decode cX0_statusByOutcome 68 = .ok (.iload_n 1, 1) := by decide +kernel
theorem dX0_statusByOutcome_69 : decode cX0_statusByOutcome 69 = .ok (.iconst 3, 1) := by decide +kernel
theorem dX0_statusByOutcome_70 : decode cX0_statusByOutcome 70 = .ok (.if_icmp .gt 7, 3) := by decide +kernel
theorem dX0_statusByOutcome_73 : decode cX0_statusByOutcome 73 = .ok (.iconst 2, 1) := by decide +kernel
theorem dX0_statusByOutcome_74 : decode cX0_statusByOutcome 74 = .ok (.goto 5, 3) := by decide +kernel
theorem dX0_statusByOutcome_77 : decode cX0_statusByOutcome 77 = .ok (.bipush 90, 2) := by decide +kernel
theorem dX0_statusByOutcome_79 : decode cX0_statusByOutcome 79 = .ok (.ireturn, 1) := by decide +kernel
theorem dX0_statusByOutcome_80 : decode cX0_statusByOutcome 80 = .ok (.aload_n 0, 1) := by decide +kernel
theorem dX0_statusByOutcome_81 : decode cX0_statusByOutcome 81 = .ok (.iload_n 1, 1) := by decide +kernel
theorem dX0_statusByOutcome_82 : decode cX0_statusByOutcome 82 = .ok (.invokevirtual 112, 3) := by decide +kernel
theorem dX0_statusByOutcome_85 : decode cX0_statusByOutcome 85 = .ok (.ireturn, 1) := by decide +kernel
theorem dX0_statusByOutcome_86 : decode cX0_statusByOutcome 86 = .ok (.aload_n 0, 1) := by decide +kernel
theorem dX0_statusByOutcome_87 : decode cX0_statusByOutcome 87 = .ok (.iload_n 1, 1) := by decide +kernel
theorem dX0_statusByOutcome_88 : decode cX0_statusByOutcome 88 = .ok (.invokevirtual 115, 3) := by decide +kernel
theorem dX0_statusByOutcome_91 : decode cX0_statusByOutcome 91 = .ok (.ireturn, 1) := by decide +kernel
theorem dX0_statusByOutcome_92 : decode cX0_statusByOutcome 92 = .ok (.bipush 30, 2) := by decide +kernel
theorem dX0_statusByOutcome_94 : decode cX0_statusByOutcome 94 = .ok (.ireturn, 1) := by decide +kernel
theorem dX0_statusByOutcome_95 : decode cX0_statusByOutcome 95 = .ok (.iload_n 1, 1) := by decide +kernel
theorem dX0_statusByOutcome_96 : decode cX0_statusByOutcome 96 = .ok (.bipush 6, 2) := by decide +kernel
theorem dX0_statusByOutcome_98 : decode cX0_statusByOutcome 98 = .ok (.if_icmp .ne 8, 3) := by decide +kernel
theorem dX0_statusByOutcome_101 : decode cX0_statusByOutcome 101 = .ok (.bipush 90, 2) := by decide +kernel
theorem dX0_statusByOutcome_103 : decode cX0_statusByOutcome 103 = .ok (.goto 5, 3) := by decide +kernel
theorem dX0_statusByOutcome_106 : decode cX0_statusByOutcome 106 = .ok (.bipush 51, 2) := by decide +kernel
theorem dX0_statusByOutcome_108 : decode cX0_statusByOutcome 108 = .ok (.ireturn, 1) := by decide +kernel
theorem dX0_statusByOutcome_109 : decode cX0_statusByOutcome 109 = .ok (.aload_n 0, 1) := by decide +kernel
theorem dX0_statusByOutcome_110 : decode cX0_statusByOutcome 110 = .ok (.iload_n 1, 1) := by decide +kernel
theorem dX0_statusByOutcome_111 : decode cX0_statusByOutcome 111 = .ok (.invokevirtual 118, 3) := by decide +kernel
theorem dX0_statusByOutcome_114 : decode cX0_statusByOutcome 114 = .ok (.ireturn, 1) := by decide +kernel
theorem dX0_statusByOutcome_115 : decode cX0_statusByOutcome 115 = .ok (.aload_n 0, 1) := by decide +kernel
theorem dX0_statusByOutcome_116 : decode cX0_statusByOutcome 116 = .ok (.getfield 53, 3) := by decide +kernel
theorem dX0_statusByOutcome_119 : decode cX0_statusByOutcome 119 = .ok (.iconst 2, 1) := by decide +kernel
theorem dX0_statusByOutcome_120 : decode cX0_statusByOutcome 120 = .ok (.if_icmp .ne 15, 3) := by decide +kernel
theorem dX0_statusByOutcome_123 : decode cX0_statusByOutcome 123 = .ok (.iload_n 1, 1) := by decide +kernel
theorem dX0_statusByOutcome_124 : decode cX0_statusByOutcome 124 = .ok (.invokestatic 121, 3) := by decide +kernel
theorem dX0_statusByOutcome_127 : decode cX0_statusByOutcome 127 = .ok (.ifCond .eq 8, 3) := by decide +kernel
theorem dX0_statusByOutcome_130 : decode cX0_statusByOutcome 130 = .ok (.bipush 21, 2) := by decide +kernel
theorem dX0_statusByOutcome_132 : decode cX0_statusByOutcome 132 = .ok (.goto 5, 3) := by decide +kernel
theorem dX0_statusByOutcome_135 : decode cX0_statusByOutcome 135 = .ok (.bipush 90, 2) := by decide +kernel
theorem dX0_statusByOutcome_137 : decode cX0_statusByOutcome 137 = .ok (.ireturn, 1) := by decide +kernel
theorem dX0_statusByOutcome_138 : decode cX0_statusByOutcome 138 = .ok (.bipush 90, 2) := by decide +kernel
theorem dX0_statusByOutcome_140 : decode cX0_statusByOutcome 140 = .ok (.ireturn, 1) := by decide +kernel
theorem dX0_statusOfNoRecord_0 : decode cX0_statusOfNoRecord 0 = .ok (.iload_n 1, 1) := by decide +kernel
theorem dX0_statusOfNoRecord_1 : decode cX0_statusOfNoRecord 1 = .ok (.tableswitch 60 0 5 #[39, 57, 60, 42, 57, 57], 39) := by decide +kernel
theorem dX0_statusOfNoRecord_40 : decode cX0_statusOfNoRecord 40 = .ok (.bipush 10, 2) := by decide +kernel
theorem dX0_statusOfNoRecord_42 : decode cX0_statusOfNoRecord 42 = .ok (.ireturn, 1) := by decide +kernel
theorem dX0_statusOfNoRecord_43 : decode cX0_statusOfNoRecord 43 = .ok (.aload_n 0, 1) := by decide +kernel
theorem dX0_statusOfNoRecord_44 : decode cX0_statusOfNoRecord 44 = .ok (.getfield 53, 3) := by decide +kernel
theorem dX0_statusOfNoRecord_47 : decode cX0_statusOfNoRecord 47 = .ok (.ifCond .ne 8, 3) := by decide +kernel
theorem dX0_statusOfNoRecord_50 : decode cX0_statusOfNoRecord 50 = .ok (.bipush 90, 2) := by decide +kernel
theorem dX0_statusOfNoRecord_52 : decode cX0_statusOfNoRecord 52 = .ok (.goto 5, 3) := by decide +kernel
theorem dX0_statusOfNoRecord_55 : decode cX0_statusOfNoRecord 55 = .ok (.bipush 23, 2) := by decide +kernel
theorem dX0_statusOfNoRecord_57 : decode cX0_statusOfNoRecord 57 = .ok (.ireturn, 1) := by decide +kernel
theorem dX0_statusOfNoRecord_58 : decode cX0_statusOfNoRecord 58 = .ok (.bipush 23, 2) := by decide +kernel
theorem dX0_statusOfNoRecord_60 : decode cX0_statusOfNoRecord 60 = .ok (.ireturn, 1) := by decide +kernel
theorem dX0_statusOfNoRecord_61 : decode cX0_statusOfNoRecord 61 = .ok (.bipush 90, 2) := by decide +kernel
theorem dX0_statusOfNoRecord_63 : decode cX0_statusOfNoRecord 63 = .ok (.ireturn, 1) := by decide +kernel
theorem dX0_statusOfBarredDouble_0 : decode cX0_statusOfBarredDouble 0 = .ok (.iload_n 1, 1) := by decide +kernel
theorem dX0_statusOfBarredDouble_1 : decode cX0_statusOfBarredDouble 1 = .ok (.iconst 2, 1) := by decide +kernel
theorem dX0_statusOfBarredDouble_2 : decode cX0_statusOfBarredDouble 2 = .ok (.if_icmp .ne 14, 3) := by decide +kernel
theorem dX0_statusOfBarredDouble_5 : decode cX0_statusOfBarredDouble 5 = .ok (.aload_n 0, 1) := by decide +kernel
theorem dX0_statusOfBarredDouble_6 : decode cX0_statusOfBarredDouble 6 = .ok (.getfield 53, 3) := by decide +kernel
theorem dX0_statusOfBarredDouble_9 : decode cX0_statusOfBarredDouble 9 = .ok (.ifCond .eq 7, 3) := by decide +kernel
theorem dX0_statusOfBarredDouble_12 : decode cX0_statusOfBarredDouble 12 = .ok (.iconst 1, 1) := by decide +kernel
theorem dX0_statusOfBarredDouble_13 : decode cX0_statusOfBarredDouble 13 = .ok (.goto 4, 3) := by decide +kernel
theorem dX0_statusOfBarredDouble_16 : decode cX0_statusOfBarredDouble 16 = .ok (.iconst 0, 1) := by decide +kernel
theorem dX0_statusOfBarredDouble_17 : decode cX0_statusOfBarredDouble 17 = .ok (.istore_n 2, 1) := by decide +kernel
theorem dX0_statusOfBarredDouble_18 : decode cX0_statusOfBarredDouble 18 = .ok (.iload_n 1, 1) := by decide +kernel
theorem dX0_statusOfBarredDouble_19 : decode cX0_statusOfBarredDouble 19 = .ok (.iconst 3, 1) := by decide +kernel
theorem dX0_statusOfBarredDouble_20 : decode cX0_statusOfBarredDouble 20 = .ok (.if_icmp .ne 15, 3) := by decide +kernel
theorem dX0_statusOfBarredDouble_23 : decode cX0_statusOfBarredDouble 23 = .ok (.aload_n 0, 1) := by decide +kernel
theorem dX0_statusOfBarredDouble_24 : decode cX0_statusOfBarredDouble 24 = .ok (.getfield 53, 3) := by decide +kernel
theorem dX0_statusOfBarredDouble_27 : decode cX0_statusOfBarredDouble 27 = .ok (.iconst 2, 1) := by decide +kernel
theorem dX0_statusOfBarredDouble_28 : decode cX0_statusOfBarredDouble 28 = .ok (.if_icmp .ne 7, 3) := by decide +kernel
theorem dX0_statusOfBarredDouble_31 : decode cX0_statusOfBarredDouble 31 = .ok (.iconst 1, 1) := by decide +kernel
theorem dX0_statusOfBarredDouble_32 : decode cX0_statusOfBarredDouble 32 = .ok (.goto 4, 3) := by decide +kernel
theorem dX0_statusOfBarredDouble_35 : decode cX0_statusOfBarredDouble 35 = .ok (.iconst 0, 1) := by decide +kernel
theorem dX0_statusOfBarredDouble_36 : decode cX0_statusOfBarredDouble 36 = .ok (.istore_n 3, 1) := by decide +kernel
theorem dX0_statusOfBarredDouble_37 : decode cX0_statusOfBarredDouble 37 = .ok (.iload_n 2, 1) := by decide +kernel
theorem dX0_statusOfBarredDouble_38 : decode cX0_statusOfBarredDouble 38 = .ok (.ifCond .ne 7, 3) := by decide +kernel
theorem dX0_statusOfBarredDouble_41 : decode cX0_statusOfBarredDouble 41 = .ok (.iload_n 3, 1) := by decide +kernel
theorem dX0_statusOfBarredDouble_42 : decode cX0_statusOfBarredDouble 42 = .ok (.ifCond .eq 8, 3) := by decide +kernel
theorem dX0_statusOfBarredDouble_45 : decode cX0_statusOfBarredDouble 45 = .ok (.bipush 22, 2) := by decide +kernel
theorem dX0_statusOfBarredDouble_47 : decode cX0_statusOfBarredDouble 47 = .ok (.goto 5, 3) := by decide +kernel
theorem dX0_statusOfBarredDouble_50 : decode cX0_statusOfBarredDouble 50 = .ok (.bipush 90, 2) := by decide +kernel
theorem dX0_statusOfBarredDouble_52 : decode cX0_statusOfBarredDouble 52 = .ok (.ireturn, 1) := by decide +kernel
theorem dX0_statusOfNoRoom_0 : decode cX0_statusOfNoRoom 0 = .ok (.iload_n 1, 1) := by decide +kernel
theorem dX0_statusOfNoRoom_1 : decode cX0_statusOfNoRoom 1 = .ok (.iconst 2, 1) := by decide +kernel
theorem dX0_statusOfNoRoom_2 : decode cX0_statusOfNoRoom 2 = .ok (.if_icmp .ne 18, 3) := by decide +kernel
theorem dX0_statusOfNoRoom_5 : decode cX0_statusOfNoRoom 5 = .ok (.aload_n 0, 1) := by decide +kernel
theorem dX0_statusOfNoRoom_6 : decode cX0_statusOfNoRoom 6 = .ok (.getfield 53, 3) := by decide +kernel
theorem dX0_statusOfNoRoom_9 : decode cX0_statusOfNoRoom 9 = .ok (.ifCond .ne 8, 3) := by decide +kernel
theorem dX0_statusOfNoRoom_12 : decode cX0_statusOfNoRoom 12 = .ok (.bipush 34, 2) := by decide +kernel
theorem dX0_statusOfNoRoom_14 : decode cX0_statusOfNoRoom 14 = .ok (.goto 5, 3) := by decide +kernel
theorem dX0_statusOfNoRoom_17 : decode cX0_statusOfNoRoom 17 = .ok (.bipush 24, 2) := by decide +kernel
theorem dX0_statusOfNoRoom_19 : decode cX0_statusOfNoRoom 19 = .ok (.ireturn, 1) := by decide +kernel
theorem dX0_statusOfNoRoom_20 : decode cX0_statusOfNoRoom 20 = .ok (.iload_n 1, 1) := by decide +kernel
theorem dX0_statusOfNoRoom_21 : decode cX0_statusOfNoRoom 21 = .ok (.ifCond .ne 16, 3) := by decide +kernel
theorem dX0_statusOfNoRoom_24 : decode cX0_statusOfNoRoom 24 = .ok (.aload_n 0, 1) := by decide +kernel
theorem dX0_statusOfNoRoom_25 : decode cX0_statusOfNoRoom 25 = .ok (.getfield 53, 3) := by decide +kernel
theorem dX0_statusOfNoRoom_28 : decode cX0_statusOfNoRoom 28 = .ok (.iconst 1, 1) := by decide +kernel
theorem dX0_statusOfNoRoom_29 : decode cX0_statusOfNoRoom 29 = .ok (.if_icmp .ne 8, 3) := by decide +kernel
theorem dX0_statusOfNoRoom_32 : decode cX0_statusOfNoRoom 32 = .ok (.bipush 14, 2) := by decide +kernel
theorem dX0_statusOfNoRoom_34 : decode cX0_statusOfNoRoom 34 = .ok (.goto 5, 3) := by decide +kernel
theorem dX0_statusOfNoRoom_37 : decode cX0_statusOfNoRoom 37 = .ok (.bipush 90, 2) := by decide +kernel
theorem dX0_statusOfNoRoom_39 : decode cX0_statusOfNoRoom 39 = .ok (.ireturn, 1) := by decide +kernel
set_option maxRecDepth 20000 in
theorem ggX0_statusOfLength_X0_isRead : GoodIn wsX0_statusOfLength wsX0_isRead := goodIn_r _ [4] (by decide +kernel) (by decide +kernel)
set_option maxRecDepth 20000 in
theorem gX0_statusOfLength_X0_isRead : GoodIn wsX0_statusOfLength (va_wsS RX0 74 yX0_isRead wsX0_isRead) := goodIn_app (goodIn_of _ (by decide +kernel)) ggX0_statusOfLength_X0_isRead
set_option maxRecDepth 20000 in
theorem ggX0_statusOfLength_X0_isWriteOrRewrite : GoodIn wsX0_statusOfLength wsX0_isWriteOrRewrite := goodIn_r _ [7] (by decide +kernel) (by decide +kernel)
set_option maxRecDepth 20000 in
theorem gX0_statusOfLength_X0_isWriteOrRewrite : GoodIn wsX0_statusOfLength (va_wsS RX0 121 yX0_isWriteOrRewrite wsX0_isWriteOrRewrite) := goodIn_app (goodIn_of _ (by decide +kernel)) ggX0_statusOfLength_X0_isWriteOrRewrite
theorem dX0_statusOfLength_0 : decode cX0_statusOfLength 0 = .ok (.iload_n 1, 1) := by decide +kernel
theorem dX0_statusOfLength_1 : decode cX0_statusOfLength 1 = .ok (.invokestatic 74, 3) := by decide +kernel
theorem dX0_statusOfLength_4 : decode cX0_statusOfLength 4 = .ok (.ifCond .eq 5, 3) := by decide +kernel
theorem dX0_statusOfLength_7 : decode cX0_statusOfLength 7 = .ok (.iconst 4, 1) := by decide +kernel
theorem dX0_statusOfLength_8 : decode cX0_statusOfLength 8 = .ok (.ireturn, 1) := by decide +kernel
theorem dX0_statusOfLength_9 : decode cX0_statusOfLength 9 = .ok (.iload_n 1, 1) := by decide +kernel
theorem dX0_statusOfLength_10 : decode cX0_statusOfLength 10 = .ok (.invokestatic 121, 3) := by decide +kernel
theorem dX0_statusOfLength_13 : decode cX0_statusOfLength 13 = .ok (.ifCond .eq 8, 3) := by decide +kernel
theorem dX0_statusOfLength_16 : decode cX0_statusOfLength 16 = .ok (.bipush 44, 2) := by decide +kernel
theorem dX0_statusOfLength_18 : decode cX0_statusOfLength 18 = .ok (.goto 5, 3) := by decide +kernel
theorem dX0_statusOfLength_21 : decode cX0_statusOfLength 21 = .ok (.bipush 90, 2) := by decide +kernel
theorem dX0_statusOfLength_23 : decode cX0_statusOfLength 23 = .ok (.ireturn, 1) := by decide +kernel
set_option maxRecDepth 20000 in
theorem ggX0_move_X0_isRead : GoodIn wsX0_move wsX0_isRead := goodIn_r _ [6] (by decide +kernel) (by decide +kernel)
set_option maxRecDepth 20000 in
theorem gX0_move_X0_isRead : GoodIn wsX0_move (va_wsS RX0 74 yX0_isRead wsX0_isRead) := goodIn_app (goodIn_of _ (by decide +kernel)) ggX0_move_X0_isRead
set_option maxRecDepth 20000 in
theorem ggX0_move_X0_placeAfter : GoodIn wsX0_move wsX0_placeAfter := goodIn_r _ [9, 10, 11, 5, 12] (by decide +kernel) (by decide +kernel)
set_option maxRecDepth 20000 in
theorem gX0_move_X0_placeAfter : GoodIn wsX0_move (va_wsS RX0 90 yX0_placeAfter wsX0_placeAfter) := goodIn_app (goodIn_of _ (by decide +kernel)) ggX0_move_X0_placeAfter
theorem dX0_move_0 : decode cX0_move 0 = .ok (.iload_n 1, 1) := by decide +kernel
theorem dX0_move_1 : decode cX0_move 1 = .ok (.invokestatic 74, 3) := by decide +kernel
theorem dX0_move_4 : decode cX0_move 4 = .ok (.ifCond .ne 8, 3) := by decide +kernel
theorem dX0_move_7 : decode cX0_move 7 = .ok (.iload_n 1, 1) := by decide +kernel
theorem dX0_move_8 : decode cX0_move 8 = .ok (.iconst 5, 1) := by decide +kernel
theorem dX0_move_9 : decode cX0_move 9 = .ok (.if_icmp .ne 15, 3) := by decide +kernel
theorem dX0_move_12 : decode cX0_move 12 = .ok (.aload_n 0, 1) := by decide +kernel
theorem dX0_move_13 : decode cX0_move 13 = .ok (.iload_n 2, 1) := by decide +kernel
theorem dX0_move_14 : decode cX0_move 14 = .ok (.aload_n 0, 1) := by decide +kernel
theorem dX0_move_15 : decode cX0_move 15 = .ok (.getfield 20, 3) := by decide +kernel
theorem dX0_move_18 : decode cX0_move 18 = .ok (.invokestatic 90, 3) := by decide +kernel
theorem dX0_move_21 : decode cX0_move 21 = .ok (.putfield 20, 3) := by decide +kernel
theorem dX0_move_24 : decode cX0_move 24 = .ok (.iload_n 1, 1) := by decide +kernel
theorem dX0_move_25 : decode cX0_move 25 = .ok (.bipush 6, 2) := by decide +kernel
theorem dX0_move_27 : decode cX0_move 27 = .ok (.if_icmp .ne 12, 3) := by decide +kernel
theorem dX0_move_30 : decode cX0_move 30 = .ok (.iload_n 2, 1) := by decide +kernel
theorem dX0_move_31 : decode cX0_move 31 = .ok (.ifCond .ne 8, 3) := by decide +kernel
theorem dX0_move_34 : decode cX0_move 34 = .ok (.aload_n 0, 1) := by decide +kernel
theorem dX0_move_35 : decode cX0_move 35 = .ok (.iconst 0, 1) := by decide +kernel
theorem dX0_move_36 : decode cX0_move 36 = .ok (.putfield 13, 3) := by decide +kernel
theorem dX0_move_39 : decode cX0_move 39 = .ok (.return_, 1) := by decide +kernel
theorem dX0_remember_0 : decode cX0_remember 0 = .ok (.aload_n 0, 1) := by decide +kernel
theorem dX0_remember_1 : decode cX0_remember 1 = .ok (.iload_n 1, 1) := by decide +kernel
theorem dX0_remember_2 : decode cX0_remember 2 = .ok (.putfield 32, 3) := by decide +kernel
theorem dX0_remember_5 : decode cX0_remember 5 = .ok (.aload_n 0, 1) := by decide +kernel
theorem dX0_remember_6 : decode cX0_remember 6 = .ok (.iload_n 2, 1) := by decide +kernel
theorem dX0_remember_7 : decode cX0_remember 7 = .ok (.putfield 29, 3) := by decide +kernel
theorem dX0_remember_10 : decode cX0_remember 10 = .ok (.iload_n 2, 1) := by decide +kernel
theorem dX0_remember_11 : decode cX0_remember 11 = .ok (.bipush 9, 2) := by decide +kernel
theorem dX0_remember_13 : decode cX0_remember 13 = .ok (.if_icmp .le 16, 3) := by decide +kernel
theorem dX0_remember_16 : decode cX0_remember 16 = .ok (.aload_n 0, 1) := by decide +kernel
theorem dX0_remember_17 : decode cX0_remember 17 = .ok (.dup, 1) := by decide +kernel
theorem dX0_remember_18 : decode cX0_remember 18 = .ok (.getfield 41, 3) := by decide +kernel
theorem dX0_remember_21 : decode cX0_remember 21 = .ok (.iconst 1, 1) := by decide +kernel
theorem dX0_remember_22 : decode cX0_remember 22 = .ok (.iadd, 1) := by decide +kernel
theorem dX0_remember_23 : decode cX0_remember 23 = .ok (.putfield 41, 3) := by decide +kernel
theorem dX0_remember_26 : decode cX0_remember 26 = .ok (.goto 19, 3) := by decide +kernel
theorem dX0_remember_29 : decode cX0_remember 29 = .ok (.iload_n 1, 1) := by decide +kernel
theorem dX0_remember_30 : decode cX0_remember 30 = .ok (.bipush 7, 2) := by decide +kernel
theorem dX0_remember_32 : decode cX0_remember 32 = .ok (.if_icmp .eq 13, 3) := by decide +kernel
theorem dX0_remember_35 : decode cX0_remember 35 = .ok (.aload_n 0, 1) := by decide +kernel
theorem dX0_remember_36 : decode cX0_remember 36 = .ok (.dup, 1) := by decide +kernel
theorem dX0_remember_37 : decode cX0_remember 37 = .ok (.getfield 38, 3) := by decide +kernel
theorem dX0_remember_40 : decode cX0_remember 40 = .ok (.iconst 1, 1) := by decide +kernel
theorem dX0_remember_41 : decode cX0_remember 41 = .ok (.iadd, 1) := by decide +kernel
theorem dX0_remember_42 : decode cX0_remember 42 = .ok (.putfield 38, 3) := by decide +kernel
theorem dX0_remember_45 : decode cX0_remember 45 = .ok (.return_, 1) := by decide +kernel
theorem dX0_hasDeclarative_0 : decode cX0_hasDeclarative 0 = .ok (.aload_n 0, 1) := by decide +kernel
theorem dX0_hasDeclarative_1 : decode cX0_hasDeclarative 1 = .ok (.getfield 35, 3) := by decide +kernel
theorem dX0_hasDeclarative_4 : decode cX0_hasDeclarative 4 = .ok (.iload_n 1, 1) := by decide +kernel
theorem dX0_hasDeclarative_5 : decode cX0_hasDeclarative 5 = .ok (.ishr, 1) := by decide +kernel
theorem dX0_hasDeclarative_6 : decode cX0_hasDeclarative 6 = .ok (.iconst 1, 1) := by decide +kernel
theorem dX0_hasDeclarative_7 : decode cX0_hasDeclarative 7 = .ok (.iand, 1) := by decide +kernel
theorem dX0_hasDeclarative_8 : decode cX0_hasDeclarative 8 = .ok (.iconst 1, 1) := by decide +kernel
theorem dX0_hasDeclarative_9 : decode cX0_hasDeclarative 9 = .ok (.if_icmp .ne 7, 3) := by decide +kernel
theorem dX0_hasDeclarative_12 : decode cX0_hasDeclarative 12 = .ok (.iconst 1, 1) := by decide +kernel
theorem dX0_hasDeclarative_13 : decode cX0_hasDeclarative 13 = .ok (.goto 4, 3) := by decide +kernel
theorem dX0_hasDeclarative_16 : decode cX0_hasDeclarative 16 = .ok (.iconst 0, 1) := by decide +kernel
theorem dX0_hasDeclarative_17 : decode cX0_hasDeclarative 17 = .ok (.ireturn, 1) := by decide +kernel
theorem dX0_isForReading_0 : decode cX0_isForReading 0 = .ok (.aload_n 0, 1) := by decide +kernel
theorem dX0_isForReading_1 : decode cX0_isForReading 1 = .ok (.getfield 9, 3) := by decide +kernel
theorem dX0_isForReading_4 : decode cX0_isForReading 4 = .ok (.ifCond .eq 11, 3) := by decide +kernel
theorem dX0_isForReading_7 : decode cX0_isForReading 7 = .ok (.aload_n 0, 1) := by decide +kernel
theorem dX0_isForReading_8 : decode cX0_isForReading 8 = .ok (.getfield 9, 3) := by decide +kernel
theorem dX0_isForReading_11 : decode cX0_isForReading 11 = .ok (.iconst 2, 1) := by decide +kernel
theorem dX0_isForReading_12 : decode cX0_isForReading 12 = .ok (.if_icmp .ne 7, 3) := by decide +kernel
theorem dX0_isForReading_15 : decode cX0_isForReading 15 = .ok (.iconst 1, 1) := by decide +kernel
theorem dX0_isForReading_16 : decode cX0_isForReading 16 = .ok (.goto 4, 3) := by decide +kernel
theorem dX0_isForReading_19 : decode cX0_isForReading 19 = .ok (.iconst 0, 1) := by decide +kernel
theorem dX0_isForReading_20 : decode cX0_isForReading 20 = .ok (.ireturn, 1) := by decide +kernel
theorem dX0_isForWriting_0 : decode cX0_isForWriting 0 = .ok (.aload_n 0, 1) := by decide +kernel
theorem dX0_isForWriting_1 : decode cX0_isForWriting 1 = .ok (.getfield 9, 3) := by decide +kernel
theorem dX0_isForWriting_4 : decode cX0_isForWriting 4 = .ok (.iconst 1, 1) := by decide +kernel
theorem dX0_isForWriting_5 : decode cX0_isForWriting 5 = .ok (.if_icmp .eq 26, 3) := by decide +kernel
theorem dX0_isForWriting_8 : decode cX0_isForWriting 8 = .ok (.aload_n 0, 1) := by decide +kernel
theorem dX0_isForWriting_9 : decode cX0_isForWriting 9 = .ok (.getfield 9, 3) := by decide +kernel
theorem dX0_isForWriting_12 : decode cX0_isForWriting 12 = .ok (.iconst 3, 1) := by decide +kernel
theorem dX0_isForWriting_13 : decode cX0_isForWriting 13 = .ok (.if_icmp .eq 18, 3) := by decide +kernel
theorem dX0_isForWriting_16 : decode cX0_isForWriting 16 = .ok (.aload_n 0, 1) := by decide +kernel
theorem dX0_isForWriting_17 : decode cX0_isForWriting 17 = .ok (.getfield 9, 3) := by decide +kernel
theorem dX0_isForWriting_20 : decode cX0_isForWriting 20 = .ok (.iconst 2, 1) := by decide +kernel
theorem dX0_isForWriting_21 : decode cX0_isForWriting 21 = .ok (.if_icmp .ne 14, 3) := by decide +kernel
theorem dX0_isForWriting_24 : decode cX0_isForWriting 24 = .ok (.aload_n 0, 1) := by decide +kernel
theorem dX0_isForWriting_25 : decode cX0_isForWriting 25 = .ok (.getfield 53, 3) := by decide +kernel
theorem dX0_isForWriting_28 : decode cX0_isForWriting 28 = .ok (.ifCond .eq 7, 3) := by decide +kernel
theorem dX0_isForWriting_31 : decode cX0_isForWriting 31 = .ok (.iconst 1, 1) := by decide +kernel
theorem dX0_isForWriting_32 : decode cX0_isForWriting 32 = .ok (.goto 4, 3) := by decide +kernel
theorem dX0_isForWriting_35 : decode cX0_isForWriting 35 = .ok (.iconst 0, 1) := by decide +kernel
theorem dX0_isForWriting_36 : decode cX0_isForWriting 36 = .ok (.ireturn, 1) := by decide +kernel
set_option maxRecDepth 20000 in
theorem ggX0_placeAfter_X0_givesPlace : GoodIn wsX0_placeAfter wsX0_givesPlace := goodIn_r _ [4] (by decide +kernel) (by decide +kernel)
set_option maxRecDepth 20000 in
theorem gX0_placeAfter_X0_givesPlace : GoodIn wsX0_placeAfter (va_wsS RX0 78 yX0_givesPlace wsX0_givesPlace) := goodIn_app (goodIn_of _ (by decide +kernel)) ggX0_placeAfter_X0_givesPlace
theorem dX0_placeAfter_0 : decode cX0_placeAfter 0 = .ok (.iload_n 0, 1) := by decide +kernel
theorem dX0_placeAfter_1 : decode cX0_placeAfter 1 = .ok (.invokestatic 78, 3) := by decide +kernel
theorem dX0_placeAfter_4 : decode cX0_placeAfter 4 = .ok (.ifCond .eq 5, 3) := by decide +kernel
theorem dX0_placeAfter_7 : decode cX0_placeAfter 7 = .ok (.iconst 1, 1) := by decide +kernel
theorem dX0_placeAfter_8 : decode cX0_placeAfter 8 = .ok (.ireturn, 1) := by decide +kernel
theorem dX0_placeAfter_9 : decode cX0_placeAfter 9 = .ok (.iload_n 0, 1) := by decide +kernel
theorem dX0_placeAfter_10 : decode cX0_placeAfter 10 = .ok (.lookupswitch 46 #[(10, 42), (14, 44), (23, 44), (46, 44)], 42) := by decide +kernel
theorem dX0_placeAfter_52 : decode cX0_placeAfter 52 = .ok (.iconst 2, 1) := by decide +kernel
theorem dX0_placeAfter_53 : decode cX0_placeAfter 53 = .ok (.ireturn, 1) := by decide +kernel
theorem dX0_placeAfter_54 : decode cX0_placeAfter 54 = .ok (.iconst 3, 1) := by decide +kernel
theorem dX0_placeAfter_55 : decode cX0_placeAfter 55 = .ok (.ireturn, 1) := by decide +kernel
theorem dX0_placeAfter_56 : decode cX0_placeAfter 56 = .ok (.iload_n 1, 1) := by decide +kernel
theorem dX0_placeAfter_57 : decode cX0_placeAfter 57 = .ok (.ireturn, 1) := by decide +kernel
theorem dX0_givesPlace_0 : decode cX0_givesPlace 0 = .ok (.iload_n 0, 1) := by decide +kernel
theorem dX0_givesPlace_1 : decode cX0_givesPlace 1 = .ok (.ifCond .eq 13, 3) := by decide +kernel
theorem dX0_givesPlace_4 : decode cX0_givesPlace 4 = .ok (.iload_n 0, 1) := by decide +kernel
theorem dX0_givesPlace_5 : decode cX0_givesPlace 5 = .ok (.iconst 2, 1) := by decide +kernel
theorem dX0_givesPlace_6 : decode cX0_givesPlace 6 = .ok (.if_icmp .eq 8, 3) := by decide +kernel
theorem dX0_givesPlace_9 : decode cX0_givesPlace 9 = .ok (.iload_n 0, 1) := by decide +kernel
theorem dX0_givesPlace_10 : decode cX0_givesPlace 10 = .ok (.iconst 4, 1) := by decide +kernel
theorem dX0_givesPlace_11 : decode cX0_givesPlace 11 = .ok (.if_icmp .ne 7, 3) := by decide +kernel
theorem dX0_givesPlace_14 : decode cX0_givesPlace 14 = .ok (.iconst 1, 1) := by decide +kernel
theorem dX0_givesPlace_15 : decode cX0_givesPlace 15 = .ok (.goto 4, 3) := by decide +kernel
theorem dX0_givesPlace_18 : decode cX0_givesPlace 18 = .ok (.iconst 0, 1) := by decide +kernel
theorem dX0_givesPlace_19 : decode cX0_givesPlace 19 = .ok (.ireturn, 1) := by decide +kernel
theorem dX0_isRead_0 : decode cX0_isRead 0 = .ok (.iload_n 0, 1) := by decide +kernel
theorem dX0_isRead_1 : decode cX0_isRead 1 = .ok (.ifCond .eq 8, 3) := by decide +kernel
theorem dX0_isRead_4 : decode cX0_isRead 4 = .ok (.iload_n 0, 1) := by decide +kernel
theorem dX0_isRead_5 : decode cX0_isRead 5 = .ok (.iconst 1, 1) := by decide +kernel
theorem dX0_isRead_6 : decode cX0_isRead 6 = .ok (.if_icmp .ne 7, 3) := by decide +kernel
theorem dX0_isRead_9 : decode cX0_isRead 9 = .ok (.iconst 1, 1) := by decide +kernel
theorem dX0_isRead_10 : decode cX0_isRead 10 = .ok (.goto 4, 3) := by decide +kernel
theorem dX0_isRead_13 : decode cX0_isRead 13 = .ok (.iconst 0, 1) := by decide +kernel
theorem dX0_isRead_14 : decode cX0_isRead 14 = .ok (.ireturn, 1) := by decide +kernel
theorem dX0_isWriteOrRewrite_0 : decode cX0_isWriteOrRewrite 0 = .ok (.iload_n 0, 1) := by decide +kernel
theorem dX0_isWriteOrRewrite_1 : decode cX0_isWriteOrRewrite 1 = .ok (.iconst 2, 1) := by decide +kernel
theorem dX0_isWriteOrRewrite_2 : decode cX0_isWriteOrRewrite 2 = .ok (.if_icmp .eq 8, 3) := by decide +kernel
theorem dX0_isWriteOrRewrite_5 : decode cX0_isWriteOrRewrite 5 = .ok (.iload_n 0, 1) := by decide +kernel
theorem dX0_isWriteOrRewrite_6 : decode cX0_isWriteOrRewrite 6 = .ok (.iconst 3, 1) := by decide +kernel
theorem dX0_isWriteOrRewrite_7 : decode cX0_isWriteOrRewrite 7 = .ok (.if_icmp .ne 7, 3) := by decide +kernel
theorem dX0_isWriteOrRewrite_10 : decode cX0_isWriteOrRewrite 10 = .ok (.iconst 1, 1) := by decide +kernel
theorem dX0_isWriteOrRewrite_11 : decode cX0_isWriteOrRewrite 11 = .ok (.goto 4, 3) := by decide +kernel
theorem dX0_isWriteOrRewrite_14 : decode cX0_isWriteOrRewrite 14 = .ok (.iconst 0, 1) := by decide +kernel
theorem dX0_isWriteOrRewrite_15 : decode cX0_isWriteOrRewrite 15 = .ok (.ireturn, 1) := by decide +kernel
theorem dX0_isStatus_0 : decode cX0_isStatus 0 = .ok (.iload_n 0, 1) := by decide +kernel
theorem dX0_isStatus_1 : decode cX0_isStatus 1 = .ok (.ifCond .lt 13, 3) := by decide +kernel
theorem dX0_isStatus_4 : decode cX0_isStatus 4 = .ok (.iload_n 0, 1) := by decide +kernel
theorem dX0_isStatus_5 : decode cX0_isStatus 5 = .ok (.bipush 99, 2) := by decide +kernel
theorem dX0_isStatus_7 : decode cX0_isStatus 7 = .ok (.if_icmp .gt 7, 3) := by decide +kernel
theorem dX0_isStatus_10 : decode cX0_isStatus 10 = .ok (.iconst 1, 1) := by decide +kernel
theorem dX0_isStatus_11 : decode cX0_isStatus 11 = .ok (.goto 4, 3) := by decide +kernel
theorem dX0_isStatus_14 : decode cX0_isStatus 14 = .ok (.iconst 0, 1) := by decide +kernel
theorem dX0_isStatus_15 : decode cX0_isStatus 15 = .ok (.ireturn, 1) := by decide +kernel
theorem dJ9_max_7cf53_0 : decode cJ9_max_7cf53 0 = .ok (.iload_n 0, 1) := by decide +kernel
theorem dJ9_max_7cf53_1 : decode cJ9_max_7cf53 1 = .ok (.iload_n 1, 1) := by decide +kernel
theorem dJ9_max_7cf53_2 : decode cJ9_max_7cf53 2 = .ok (.if_icmp .lt 7, 3) := by decide +kernel
theorem dJ9_max_7cf53_5 : decode cJ9_max_7cf53 5 = .ok (.iload_n 0, 1) := by decide +kernel
theorem dJ9_max_7cf53_6 : decode cJ9_max_7cf53 6 = .ok (.goto 4, 3) := by decide +kernel
theorem dJ9_max_7cf53_9 : decode cJ9_max_7cf53 9 = .ok (.iload_n 1, 1) := by decide +kernel
theorem dJ9_max_7cf53_10 : decode cJ9_max_7cf53 10 = .ok (.ireturn, 1) := by decide +kernel
theorem dJ9_min_7cf53_0 : decode cJ9_min_7cf53 0 = .ok (.iload_n 0, 1) := by decide +kernel
theorem dJ9_min_7cf53_1 : decode cJ9_min_7cf53 1 = .ok (.iload_n 1, 1) := by decide +kernel
theorem dJ9_min_7cf53_2 : decode cJ9_min_7cf53 2 = .ok (.if_icmp .gt 7, 3) := by decide +kernel
theorem dJ9_min_7cf53_5 : decode cJ9_min_7cf53 5 = .ok (.iload_n 0, 1) := by decide +kernel
theorem dJ9_min_7cf53_6 : decode cJ9_min_7cf53 6 = .ok (.goto 4, 3) := by decide +kernel
theorem dJ9_min_7cf53_9 : decode cJ9_min_7cf53 9 = .ok (.iload_n 1, 1) := by decide +kernel
theorem dJ9_min_7cf53_10 : decode cJ9_min_7cf53 10 = .ok (.ireturn, 1) := by decide +kernel
abbrev vwCl : List vw_C := [(RX0, TX0, 12), (RX1, TX1, 13)]
