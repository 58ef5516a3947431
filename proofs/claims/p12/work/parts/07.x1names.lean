abbrev cX1_init : ByteArray := prog_3_method_1_code
def yX1_init : MethodName := ⟨RX1, "<init>", "(I)V"⟩
abbrev cX1_mode : ByteArray := prog_3_method_3_code
def yX1_mode : MethodName := ⟨RX1, "mode", "(I)I"⟩
abbrev cX1_told : ByteArray := prog_3_method_4_code
def yX1_told : MethodName := ⟨RX1, "told", "(II)I"⟩
abbrev cX1_opened : ByteArray := prog_3_method_6_code
def yX1_opened : MethodName := ⟨RX1, "opened", "(I)I"⟩
abbrev cX1_reads : ByteArray := prog_3_method_7_code
def yX1_reads : MethodName := ⟨RX1, "reads", "()Z"⟩
abbrev cX1_ahead : ByteArray := prog_3_method_8_code
def yX1_ahead : MethodName := ⟨RX1, "ahead", "(I)I"⟩
abbrev cX1_byOutcome : ByteArray := prog_3_method_9_code
def yX1_byOutcome : MethodName := ⟨RX1, "byOutcome", "(II)I"⟩
abbrev cX1_moved : ByteArray := prog_3_method_11_code
def yX1_moved : MethodName := ⟨RX1, "moved", "(I)I"⟩
abbrev cX1_isStatus : ByteArray := prog_3_method_12_code
def yX1_isStatus : MethodName := ⟨RX1, "isStatus", "(I)Z"⟩
abbrev cX1_kindOf : ByteArray := prog_3_method_13_code
def yX1_kindOf : MethodName := ⟨RX1, "kindOf", "(I)I"⟩
abbrev cX1_exception : ByteArray := prog_3_method_14_code
def yX1_exception : MethodName := ⟨RX1, "exception", "(I)I"⟩
abbrev cX1_phrase : ByteArray := prog_3_method_15_code
def yX1_phrase : MethodName := ⟨RX1, "phrase", "(Z)I"⟩
abbrev cX1_declarative : ByteArray := prog_3_method_16_code
def yX1_declarative : MethodName := ⟨RX1, "declarative", "(IZ)I"⟩
abbrev cX1_position : ByteArray := prog_3_method_17_code
def yX1_position : MethodName := ⟨RX1, "position", "(I)I"⟩
abbrev cX1_optional : ByteArray := prog_3_method_18_code
def yX1_optional : MethodName := ⟨RX1, "optional", "(Z)I"⟩
abbrev cX1_both : ByteArray := prog_3_method_19_code
def yX1_both : MethodName := ⟨RX1, "both", "(II)I"⟩
abbrev cX1_extended : ByteArray := prog_3_method_20_code
def yX1_extended : MethodName := ⟨RX1, "extended", "(I)I"⟩
abbrev cX1_area : ByteArray := prog_3_method_21_code
def yX1_area : MethodName := ⟨RX1, "area", "(I)I"⟩
abbrev cX1_count : ByteArray := prog_3_method_22_code
def yX1_count : MethodName := ⟨RX1, "count", "(I)I"⟩
abbrev cX1_open : ByteArray := prog_3_method_5_code
def yX1_open : MethodName := ⟨RX1, "open", "(I)I"⟩
abbrev cX1_act : ByteArray := prog_3_method_10_code
def yX1_act : MethodName := ⟨RX1, "act", "(II)I"⟩
def wsX1_init : List Cond := .code yX1_init cX1_init 2 none :: ([.methodLink RX1 1 objectInit, .instanceMethod objectInit, .code objectInit ⟨#[0xb1]⟩ 1 none, .fieldLink RX1 7 "FileStatusModel" "act" "I", .arrayClass .boolean, .fieldLink RX1 13 "FileStatusModel" "declared" "[Z", .fieldLink RX1 17 "FileStatusModel" "organisation" "I"] ++ wsX10)
def wsX1_mode : List Cond := .code yX1_mode cX1_mode 3 (some .int) :: ([.fieldLink RX1 20 "FileStatusModel" "code" "I", .fieldLink RX1 23 "FileStatusModel" "isOpen" "Z", .fieldLink RX1 27 "FileStatusModel" "mode" "I"] ++ wsX10)
def wsX1_told : List Cond := .code yX1_told cX1_told 3 (some .int) :: ([.fieldLink RX1 30 "FileStatusModel" "latest" "I", .fieldLink RX1 7 "FileStatusModel" "act" "I", .fieldLink RX1 33 "FileStatusModel" "good" "I", .fieldLink RX1 36 "FileStatusModel" "bad" "I"] ++ wsX10)
def wsX1_opened : List Cond := .code yX1_opened cX1_opened 2 (some .int) :: ([.fieldLink RX1 23 "FileStatusModel" "isOpen" "Z", .fieldLink RX1 27 "FileStatusModel" "mode" "I", .fieldLink RX1 56 "FileStatusModel" "optional" "Z"] ++ wsX10)
def wsX1_reads : List Cond := .code yX1_reads cX1_reads 1 (some .boolean) :: ([.fieldLink RX1 27 "FileStatusModel" "mode" "I"] ++ wsX10)
def wsX1_ahead : List Cond := .code yX1_ahead cX1_ahead 2 (some .int) :: ([.fieldLink RX1 23 "FileStatusModel" "isOpen" "Z", .fieldLink RX1 17 "FileStatusModel" "organisation" "I", .methodLink RX1 59 yX1_reads, .instanceMethod yX1_reads, .selects RX1 yX1_reads yX1_reads, .initialized RX1, .code yX1_reads cX1_reads 1 (some .boolean), .fieldLink RX1 27 "FileStatusModel" "mode" "I", .fieldLink RX1 47 "FileStatusModel" "permit" "Z", .fieldLink RX1 50 "FileStatusModel" "position" "I"] ++ wsX10)
def wsX1_byOutcome : List Cond := .code yX1_byOutcome cX1_byOutcome 5 (some .int) :: ([.fieldLink RX1 17 "FileStatusModel" "organisation" "I"] ++ wsX10)
def wsX1_moved : List Cond := .code yX1_moved cX1_moved 1 (some .int) :: ([])
def wsX1_isStatus : List Cond := .code yX1_isStatus cX1_isStatus 1 (some .boolean) :: ([])
def wsX1_kindOf : List Cond := .code yX1_kindOf cX1_kindOf 2 (some .int) :: ([])
def wsX1_exception : List Cond := .code yX1_exception cX1_exception 2 (some .int) :: ([.fieldLink RX1 20 "FileStatusModel" "code" "I", .methodLink RX1 72 yX1_isStatus, .static yX1_isStatus, .initialized RX1, .code yX1_isStatus cX1_isStatus 1 (some .boolean), .methodLink RX1 76 yX1_kindOf, .static yX1_kindOf, .code yX1_kindOf cX1_kindOf 2 (some .int)] ++ wsX10)
def wsX1_phrase : List Cond := .code yX1_phrase cX1_phrase 3 (some .int) :: ([.fieldLink RX1 20 "FileStatusModel" "code" "I", .fieldLink RX1 30 "FileStatusModel" "latest" "I", .methodLink RX1 76 yX1_kindOf, .static yX1_kindOf, .initialized RX1, .code yX1_kindOf cX1_kindOf 2 (some .int), .fieldLink RX1 13 "FileStatusModel" "declared" "[Z"] ++ wsX10)
def wsX1_declarative : List Cond := .code yX1_declarative cX1_declarative 4 (some .int) :: ([.fieldLink RX1 20 "FileStatusModel" "code" "I", .fieldLink RX1 13 "FileStatusModel" "declared" "[Z"] ++ wsX10)
def wsX1_position : List Cond := .code yX1_position cX1_position 2 (some .int) :: ([.fieldLink RX1 20 "FileStatusModel" "code" "I", .methodLink RX1 72 yX1_isStatus, .static yX1_isStatus, .initialized RX1, .code yX1_isStatus cX1_isStatus 1 (some .boolean), .methodLink RX1 69 yX1_moved, .static yX1_moved, .code yX1_moved cX1_moved 1 (some .int)] ++ wsX10)
def wsX1_optional : List Cond := .code yX1_optional cX1_optional 3 (some .int) :: ([.fieldLink RX1 20 "FileStatusModel" "code" "I", .fieldLink RX1 23 "FileStatusModel" "isOpen" "Z", .fieldLink RX1 56 "FileStatusModel" "optional" "Z"] ++ wsX10)
def wsX1_both : List Cond := .code yX1_both cX1_both 3 (some .int) :: ([.fieldLink RX1 20 "FileStatusModel" "code" "I", .methodLink RX1 72 yX1_isStatus, .static yX1_isStatus, .initialized RX1, .code yX1_isStatus cX1_isStatus 1 (some .boolean), .methodLink RX1 76 yX1_kindOf, .static yX1_kindOf, .code yX1_kindOf cX1_kindOf 2 (some .int)] ++ wsX10)
def wsX1_extended : List Cond := .code yX1_extended cX1_extended 2 (some .int) :: ([.fieldLink RX1 20 "FileStatusModel" "code" "I", .methodLink RX1 72 yX1_isStatus, .static yX1_isStatus, .initialized RX1, .code yX1_isStatus cX1_isStatus 1 (some .boolean), .fieldLink RX1 17 "FileStatusModel" "organisation" "I", .fieldLink RX1 7 "FileStatusModel" "act" "I"] ++ wsX10)
def wsX1_area : List Cond := .code yX1_area cX1_area 2 (some .int) :: ([.fieldLink RX1 20 "FileStatusModel" "code" "I", .methodLink RX1 72 yX1_isStatus, .static yX1_isStatus, .initialized RX1, .code yX1_isStatus cX1_isStatus 1 (some .boolean)] ++ wsX10)
def wsX1_count : List Cond := .code yX1_count cX1_count 2 (some .int) :: ([.fieldLink RX1 20 "FileStatusModel" "code" "I", .fieldLink RX1 23 "FileStatusModel" "isOpen" "Z", .fieldLink RX1 27 "FileStatusModel" "mode" "I", .fieldLink RX1 50 "FileStatusModel" "position" "I", .fieldLink RX1 47 "FileStatusModel" "permit" "Z", .fieldLink RX1 30 "FileStatusModel" "latest" "I", .fieldLink RX1 33 "FileStatusModel" "good" "I", .fieldLink RX1 36 "FileStatusModel" "bad" "I", .fieldLink RX1 17 "FileStatusModel" "organisation" "I"] ++ wsX10)
def wsX1_open : List Cond := .code yX1_open cX1_open 4 (some .int) :: ([.fieldLink RX1 20 "FileStatusModel" "code" "I", .methodLink RX1 39 yX1_opened, .instanceMethod yX1_opened, .selects RX1 yX1_opened yX1_opened, .initialized RX1, .code yX1_opened cX1_opened 2 (some .int), .fieldLink RX1 23 "FileStatusModel" "isOpen" "Z", .fieldLink RX1 27 "FileStatusModel" "mode" "I", .fieldLink RX1 56 "FileStatusModel" "optional" "Z", .fieldLink RX1 33 "FileStatusModel" "good" "I", .methodLink RX1 43 yX1_told, .instanceMethod yX1_told, .selects RX1 yX1_told yX1_told, .code yX1_told cX1_told 3 (some .int), .fieldLink RX1 30 "FileStatusModel" "latest" "I", .fieldLink RX1 7 "FileStatusModel" "act" "I", .fieldLink RX1 36 "FileStatusModel" "bad" "I", .fieldLink RX1 47 "FileStatusModel" "permit" "Z", .fieldLink RX1 50 "FileStatusModel" "position" "I", .fieldLink RX1 53 "FileStatusModel" "nothing" "Z"] ++ wsX10)
def wsX1_act : List Cond := .code yX1_act cX1_act 6 (some .int) :: ([.fieldLink RX1 20 "FileStatusModel" "code" "I", .methodLink RX1 63 yX1_ahead, .instanceMethod yX1_ahead, .selects RX1 yX1_ahead yX1_ahead, .initialized RX1, .code yX1_ahead cX1_ahead 2 (some .int), .fieldLink RX1 23 "FileStatusModel" "isOpen" "Z", .fieldLink RX1 17 "FileStatusModel" "organisation" "I", .methodLink RX1 59 yX1_reads, .instanceMethod yX1_reads, .selects RX1 yX1_reads yX1_reads, .code yX1_reads cX1_reads 1 (some .boolean), .fieldLink RX1 27 "FileStatusModel" "mode" "I", .fieldLink RX1 47 "FileStatusModel" "permit" "Z", .fieldLink RX1 50 "FileStatusModel" "position" "I", .fieldLink RX1 53 "FileStatusModel" "nothing" "Z", .methodLink RX1 66 yX1_byOutcome, .instanceMethod yX1_byOutcome, .selects RX1 yX1_byOutcome yX1_byOutcome, .code yX1_byOutcome cX1_byOutcome 5 (some .int), .methodLink RX1 43 yX1_told, .instanceMethod yX1_told, .selects RX1 yX1_told yX1_told, .code yX1_told cX1_told 3 (some .int), .fieldLink RX1 30 "FileStatusModel" "latest" "I", .fieldLink RX1 7 "FileStatusModel" "act" "I", .fieldLink RX1 33 "FileStatusModel" "good" "I", .fieldLink RX1 36 "FileStatusModel" "bad" "I", .methodLink RX1 69 yX1_moved, .static yX1_moved, .code yX1_moved cX1_moved 1 (some .int)] ++ wsX10)
set_option maxRecDepth 20000 in
theorem ggX1_ahead_X1_reads : GoodIn wsX1_ahead wsX1_reads := goodIn_r _ [7, 8, 11, 12, 13, 14, 15, 16, 17, 18, 19, 20, 21, 22, 23] (by decide +kernel) (by decide +kernel)
set_option maxRecDepth 20000 in
theorem gX1_ahead_X1_reads : GoodIn wsX1_ahead (wsV RX1 59 RX1 yX1_reads wsX1_reads) := goodIn_app (goodIn_of _ (by decide +kernel)) ggX1_ahead_X1_reads
set_option maxRecDepth 20000 in
theorem ggX1_exception_X1_isStatus : GoodIn wsX1_exception wsX1_isStatus := goodIn_r _ [5] (by decide +kernel) (by decide +kernel)
set_option maxRecDepth 20000 in
theorem gX1_exception_X1_isStatus : GoodIn wsX1_exception (va_wsS RX1 72 yX1_isStatus wsX1_isStatus) := goodIn_app (goodIn_of _ (by decide +kernel)) ggX1_exception_X1_isStatus
set_option maxRecDepth 20000 in
theorem ggX1_exception_X1_kindOf : GoodIn wsX1_exception wsX1_kindOf := goodIn_r _ [8] (by decide +kernel) (by decide +kernel)
set_option maxRecDepth 20000 in
theorem gX1_exception_X1_kindOf : GoodIn wsX1_exception (va_wsS RX1 76 yX1_kindOf wsX1_kindOf) := goodIn_app (goodIn_of _ (by decide +kernel)) ggX1_exception_X1_kindOf
set_option maxRecDepth 20000 in
theorem ggX1_phrase_X1_kindOf : GoodIn wsX1_phrase wsX1_kindOf := goodIn_r _ [6] (by decide +kernel) (by decide +kernel)
set_option maxRecDepth 20000 in
theorem gX1_phrase_X1_kindOf : GoodIn wsX1_phrase (va_wsS RX1 76 yX1_kindOf wsX1_kindOf) := goodIn_app (goodIn_of _ (by decide +kernel)) ggX1_phrase_X1_kindOf
set_option maxRecDepth 20000 in
theorem ggX1_position_X1_isStatus : GoodIn wsX1_position wsX1_isStatus := goodIn_r _ [5] (by decide +kernel) (by decide +kernel)
set_option maxRecDepth 20000 in
theorem gX1_position_X1_isStatus : GoodIn wsX1_position (va_wsS RX1 72 yX1_isStatus wsX1_isStatus) := goodIn_app (goodIn_of _ (by decide +kernel)) ggX1_position_X1_isStatus
set_option maxRecDepth 20000 in
theorem ggX1_position_X1_moved : GoodIn wsX1_position wsX1_moved := goodIn_r _ [8] (by decide +kernel) (by decide +kernel)
set_option maxRecDepth 20000 in
theorem gX1_position_X1_moved : GoodIn wsX1_position (va_wsS RX1 69 yX1_moved wsX1_moved) := goodIn_app (goodIn_of _ (by decide +kernel)) ggX1_position_X1_moved
set_option maxRecDepth 20000 in
theorem ggX1_both_X1_isStatus : GoodIn wsX1_both wsX1_isStatus := goodIn_r _ [5] (by decide +kernel) (by decide +kernel)
set_option maxRecDepth 20000 in
theorem gX1_both_X1_isStatus : GoodIn wsX1_both (va_wsS RX1 72 yX1_isStatus wsX1_isStatus) := goodIn_app (goodIn_of _ (by decide +kernel)) ggX1_both_X1_isStatus
set_option maxRecDepth 20000 in
theorem ggX1_both_X1_kindOf : GoodIn wsX1_both wsX1_kindOf := goodIn_r _ [8] (by decide +kernel) (by decide +kernel)
set_option maxRecDepth 20000 in
theorem gX1_both_X1_kindOf : GoodIn wsX1_both (va_wsS RX1 76 yX1_kindOf wsX1_kindOf) := goodIn_app (goodIn_of _ (by decide +kernel)) ggX1_both_X1_kindOf
set_option maxRecDepth 20000 in
theorem ggX1_extended_X1_isStatus : GoodIn wsX1_extended wsX1_isStatus := goodIn_r _ [5] (by decide +kernel) (by decide +kernel)
set_option maxRecDepth 20000 in
theorem gX1_extended_X1_isStatus : GoodIn wsX1_extended (va_wsS RX1 72 yX1_isStatus wsX1_isStatus) := goodIn_app (goodIn_of _ (by decide +kernel)) ggX1_extended_X1_isStatus
set_option maxRecDepth 20000 in
theorem ggX1_area_X1_isStatus : GoodIn wsX1_area wsX1_isStatus := goodIn_r _ [5] (by decide +kernel) (by decide +kernel)
set_option maxRecDepth 20000 in
theorem gX1_area_X1_isStatus : GoodIn wsX1_area (va_wsS RX1 72 yX1_isStatus wsX1_isStatus) := goodIn_app (goodIn_of _ (by decide +kernel)) ggX1_area_X1_isStatus
set_option maxRecDepth 20000 in
theorem ggX1_open_X1_opened : GoodIn wsX1_open wsX1_opened := goodIn_r _ [6, 7, 8, 9, 21, 22, 23, 24, 25, 26, 27, 28, 29, 30, 31, 32, 33] (by decide +kernel) (by decide +kernel)
set_option maxRecDepth 20000 in
theorem gX1_open_X1_opened : GoodIn wsX1_open (wsV RX1 39 RX1 yX1_opened wsX1_opened) := goodIn_app (goodIn_of _ (by decide +kernel)) ggX1_open_X1_opened
set_option maxRecDepth 20000 in
theorem ggX1_open_X1_told : GoodIn wsX1_open wsX1_told := goodIn_r _ [14, 15, 16, 10, 17, 21, 22, 23, 24, 25, 26, 27, 28, 29, 30, 31, 32, 33] (by decide +kernel) (by decide +kernel)
set_option maxRecDepth 20000 in
theorem gX1_open_X1_told : GoodIn wsX1_open (wsV RX1 43 RX1 yX1_told wsX1_told) := goodIn_app (goodIn_of _ (by decide +kernel)) ggX1_open_X1_told
set_option maxRecDepth 20000 in
theorem ggX1_act_X1_ahead : GoodIn wsX1_act wsX1_ahead := goodIn_r _ [6, 7, 8, 9, 10, 11, 5, 12, 13, 14, 15, 32, 33, 34, 35, 36, 37, 38, 39, 40, 41, 42, 43, 44] (by decide +kernel) (by decide +kernel)
set_option maxRecDepth 20000 in
theorem gX1_act_X1_ahead : GoodIn wsX1_act (wsV RX1 63 RX1 yX1_ahead wsX1_ahead) := goodIn_app (goodIn_of _ (by decide +kernel)) ggX1_act_X1_ahead
set_option maxRecDepth 20000 in
theorem ggX1_act_X1_byOutcome : GoodIn wsX1_act wsX1_byOutcome := goodIn_r _ [20, 8, 32, 33, 34, 35, 36, 37, 38, 39, 40, 41, 42, 43, 44] (by decide +kernel) (by decide +kernel)
set_option maxRecDepth 20000 in
theorem gX1_act_X1_byOutcome : GoodIn wsX1_act (wsV RX1 66 RX1 yX1_byOutcome wsX1_byOutcome) := goodIn_app (goodIn_of _ (by decide +kernel)) ggX1_act_X1_byOutcome
set_option maxRecDepth 20000 in
theorem ggX1_act_X1_told : GoodIn wsX1_act wsX1_told := goodIn_r _ [24, 25, 26, 27, 28, 32, 33, 34, 35, 36, 37, 38, 39, 40, 41, 42, 43, 44] (by decide +kernel) (by decide +kernel)
set_option maxRecDepth 20000 in
theorem gX1_act_X1_told : GoodIn wsX1_act (wsV RX1 43 RX1 yX1_told wsX1_told) := goodIn_app (goodIn_of _ (by decide +kernel)) ggX1_act_X1_told
set_option maxRecDepth 20000 in
theorem ggX1_act_X1_reads : GoodIn wsX1_act wsX1_reads := goodIn_r _ [12, 13, 32, 33, 34, 35, 36, 37, 38, 39, 40, 41, 42, 43, 44] (by decide +kernel) (by decide +kernel)
set_option maxRecDepth 20000 in
theorem gX1_act_X1_reads : GoodIn wsX1_act (wsV RX1 59 RX1 yX1_reads wsX1_reads) := goodIn_app (goodIn_of _ (by decide +kernel)) ggX1_act_X1_reads
set_option maxRecDepth 20000 in
theorem ggX1_act_X1_moved : GoodIn wsX1_act wsX1_moved := goodIn_r _ [31] (by decide +kernel) (by decide +kernel)
set_option maxRecDepth 20000 in
theorem gX1_act_X1_moved : GoodIn wsX1_act (va_wsS RX1 69 yX1_moved wsX1_moved) := goodIn_app (goodIn_of _ (by decide +kernel)) ggX1_act_X1_moved
