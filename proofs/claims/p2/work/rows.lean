section
-- ===== PART A: goes FIRST, ahead of the names: the tables' words, and 'selects' of the private methods out of them =====
/-- a private method of a class that the tables say can be made, by its rows of tables_1 -/
def lw_okq (q : MethodName × Nat) : Prop := (q.1.cls ≠ "java/lang/invoke/MethodHandle" ∧ q.1.cls ≠ "java/lang/invoke/VarHandle") ∧ Cond.instantiable q.1.cls q.2 ∈ tables_1 ∧ Cond.privateMethod q.1 ∈ tables_1 ∧ Cond.instanceMethod q.1 ∈ tables_1
theorem lw_p0 : lw_okq (⟨"FileStatus", "statusOfOpening", "(I)I"⟩, 12) := ⟨⟨by decide +kernel, by decide +kernel⟩, List.mem_of_getElem? (i := 5) (by decide +kernel), List.mem_of_getElem? (i := 64) (by decide +kernel), List.mem_of_getElem? (i := 65) (by decide +kernel)⟩
theorem lw_p1 : lw_okq (⟨"FileStatus", "statusOfMissingFile", "()I"⟩, 12) := ⟨⟨by decide +kernel, by decide +kernel⟩, List.mem_of_getElem? (i := 5) (by decide +kernel), List.mem_of_getElem? (i := 68) (by decide +kernel), List.mem_of_getElem? (i := 69) (by decide +kernel)⟩
theorem lw_p2 : lw_okq (⟨"FileStatus", "isForReading", "()Z"⟩, 12) := ⟨⟨by decide +kernel, by decide +kernel⟩, List.mem_of_getElem? (i := 5) (by decide +kernel), List.mem_of_getElem? (i := 72) (by decide +kernel), List.mem_of_getElem? (i := 73) (by decide +kernel)⟩
theorem lw_p3 : lw_okq (⟨"FileStatus", "remember", "(II)V"⟩, 12) := ⟨⟨by decide +kernel, by decide +kernel⟩, List.mem_of_getElem? (i := 5) (by decide +kernel), List.mem_of_getElem? (i := 76) (by decide +kernel), List.mem_of_getElem? (i := 77) (by decide +kernel)⟩
theorem lw_p4 : lw_okq (⟨"FileStatus", "statusOfAct", "(II)I"⟩, 12) := ⟨⟨by decide +kernel, by decide +kernel⟩, List.mem_of_getElem? (i := 5) (by decide +kernel), List.mem_of_getElem? (i := 84) (by decide +kernel), List.mem_of_getElem? (i := 85) (by decide +kernel)⟩
theorem lw_p5 : lw_okq (⟨"FileStatus", "statusAheadOfOutcome", "(I)I"⟩, 12) := ⟨⟨by decide +kernel, by decide +kernel⟩, List.mem_of_getElem? (i := 5) (by decide +kernel), List.mem_of_getElem? (i := 88) (by decide +kernel), List.mem_of_getElem? (i := 89) (by decide +kernel)⟩
theorem lw_p6 : lw_okq (⟨"FileStatus", "statusOfWrongMode", "(I)I"⟩, 12) := ⟨⟨by decide +kernel, by decide +kernel⟩, List.mem_of_getElem? (i := 5) (by decide +kernel), List.mem_of_getElem? (i := 92) (by decide +kernel), List.mem_of_getElem? (i := 93) (by decide +kernel)⟩
theorem lw_p7 : lw_okq (⟨"FileStatus", "isForWriting", "()Z"⟩, 12) := ⟨⟨by decide +kernel, by decide +kernel⟩, List.mem_of_getElem? (i := 5) (by decide +kernel), List.mem_of_getElem? (i := 96) (by decide +kernel), List.mem_of_getElem? (i := 97) (by decide +kernel)⟩
theorem lw_p8 : lw_okq (⟨"FileStatus", "statusByOutcome", "(II)I"⟩, 12) := ⟨⟨by decide +kernel, by decide +kernel⟩, List.mem_of_getElem? (i := 5) (by decide +kernel), List.mem_of_getElem? (i := 100) (by decide +kernel), List.mem_of_getElem? (i := 101) (by decide +kernel)⟩
theorem lw_p9 : lw_okq (⟨"FileStatus", "statusOfNoRecord", "(I)I"⟩, 12) := ⟨⟨by decide +kernel, by decide +kernel⟩, List.mem_of_getElem? (i := 5) (by decide +kernel), List.mem_of_getElem? (i := 104) (by decide +kernel), List.mem_of_getElem? (i := 105) (by decide +kernel)⟩
theorem lw_p10 : lw_okq (⟨"FileStatus", "statusOfBarredDouble", "(I)I"⟩, 12) := ⟨⟨by decide +kernel, by decide +kernel⟩, List.mem_of_getElem? (i := 5) (by decide +kernel), List.mem_of_getElem? (i := 108) (by decide +kernel), List.mem_of_getElem? (i := 109) (by decide +kernel)⟩
theorem lw_p11 : lw_okq (⟨"FileStatus", "statusOfNoRoom", "(I)I"⟩, 12) := ⟨⟨by decide +kernel, by decide +kernel⟩, List.mem_of_getElem? (i := 5) (by decide +kernel), List.mem_of_getElem? (i := 112) (by decide +kernel), List.mem_of_getElem? (i := 113) (by decide +kernel)⟩
theorem lw_p12 : lw_okq (⟨"FileStatus", "statusOfLength", "(I)I"⟩, 12) := ⟨⟨by decide +kernel, by decide +kernel⟩, List.mem_of_getElem? (i := 5) (by decide +kernel), List.mem_of_getElem? (i := 116) (by decide +kernel), List.mem_of_getElem? (i := 117) (by decide +kernel)⟩
theorem lw_p13 : lw_okq (⟨"FileStatus", "move", "(II)V"⟩, 12) := ⟨⟨by decide +kernel, by decide +kernel⟩, List.mem_of_getElem? (i := 5) (by decide +kernel), List.mem_of_getElem? (i := 126) (by decide +kernel), List.mem_of_getElem? (i := 127) (by decide +kernel)⟩
theorem lw_p14 : lw_okq (⟨"FileStatus", "hasDeclarative", "(I)Z"⟩, 12) := ⟨⟨by decide +kernel, by decide +kernel⟩, List.mem_of_getElem? (i := 5) (by decide +kernel), List.mem_of_getElem? (i := 148) (by decide +kernel), List.mem_of_getElem? (i := 149) (by decide +kernel)⟩
theorem lw_p15 : lw_okq (⟨"FileStatusModel", "opened", "(I)I"⟩, 13) := ⟨⟨by decide +kernel, by decide +kernel⟩, List.mem_of_getElem? (i := 183) (by decide +kernel), List.mem_of_getElem? (i := 238) (by decide +kernel), List.mem_of_getElem? (i := 239) (by decide +kernel)⟩
def lw_privs_1 : List (MethodName × Nat) := [(⟨"FileStatus", "statusOfOpening", "(I)I"⟩, 12), (⟨"FileStatus", "statusOfMissingFile", "()I"⟩, 12), (⟨"FileStatus", "isForReading", "()Z"⟩, 12), (⟨"FileStatus", "remember", "(II)V"⟩, 12), (⟨"FileStatus", "statusOfAct", "(II)I"⟩, 12), (⟨"FileStatus", "statusAheadOfOutcome", "(I)I"⟩, 12), (⟨"FileStatus", "statusOfWrongMode", "(I)I"⟩, 12), (⟨"FileStatus", "isForWriting", "()Z"⟩, 12), (⟨"FileStatus", "statusByOutcome", "(II)I"⟩, 12), (⟨"FileStatus", "statusOfNoRecord", "(I)I"⟩, 12), (⟨"FileStatus", "statusOfBarredDouble", "(I)I"⟩, 12), (⟨"FileStatus", "statusOfNoRoom", "(I)I"⟩, 12), (⟨"FileStatus", "statusOfLength", "(I)I"⟩, 12), (⟨"FileStatus", "move", "(II)V"⟩, 12), (⟨"FileStatus", "hasDeclarative", "(I)Z"⟩, 12), (⟨"FileStatusModel", "opened", "(I)I"⟩, 13)]
theorem lw_r1 : ∀ q ∈ lw_privs_1, lw_okq q := List.forall_mem_cons.mpr ⟨lw_p0, List.forall_mem_cons.mpr ⟨lw_p1, List.forall_mem_cons.mpr ⟨lw_p2, List.forall_mem_cons.mpr ⟨lw_p3, List.forall_mem_cons.mpr ⟨lw_p4, List.forall_mem_cons.mpr ⟨lw_p5, List.forall_mem_cons.mpr ⟨lw_p6, List.forall_mem_cons.mpr ⟨lw_p7, List.forall_mem_cons.mpr ⟨lw_p8, List.forall_mem_cons.mpr ⟨lw_p9, List.forall_mem_cons.mpr ⟨lw_p10, List.forall_mem_cons.mpr ⟨lw_p11, List.forall_mem_cons.mpr ⟨lw_p12, List.forall_mem_cons.mpr ⟨lw_p13, List.forall_mem_cons.mpr ⟨lw_p14, List.forall_mem_cons.mpr ⟨lw_p15, fun _ h => absurd h List.not_mem_nil⟩⟩⟩⟩⟩⟩⟩⟩⟩⟩⟩⟩⟩⟩⟩⟩
theorem lw_p16 : lw_okq (⟨"FileStatusModel", "told", "(II)I"⟩, 13) := ⟨⟨by decide +kernel, by decide +kernel⟩, List.mem_of_getElem? (i := 183) (by decide +kernel), List.mem_of_getElem? (i := 242) (by decide +kernel), List.mem_of_getElem? (i := 243) (by decide +kernel)⟩
theorem lw_p17 : lw_okq (⟨"FileStatusModel", "ahead", "(I)I"⟩, 13) := ⟨⟨by decide +kernel, by decide +kernel⟩, List.mem_of_getElem? (i := 183) (by decide +kernel), List.mem_of_getElem? (i := 250) (by decide +kernel), List.mem_of_getElem? (i := 251) (by decide +kernel)⟩
theorem lw_p18 : lw_okq (⟨"FileStatusModel", "reads", "()Z"⟩, 13) := ⟨⟨by decide +kernel, by decide +kernel⟩, List.mem_of_getElem? (i := 183) (by decide +kernel), List.mem_of_getElem? (i := 254) (by decide +kernel), List.mem_of_getElem? (i := 255) (by decide +kernel)⟩
theorem lw_p19 : lw_okq (⟨"FileStatusModel", "byOutcome", "(II)I"⟩, 13) := ⟨⟨by decide +kernel, by decide +kernel⟩, List.mem_of_getElem? (i := 183) (by decide +kernel), List.mem_of_getElem? (i := 258) (by decide +kernel), List.mem_of_getElem? (i := 259) (by decide +kernel)⟩
def lw_privs_2 : List (MethodName × Nat) := [(⟨"FileStatusModel", "told", "(II)I"⟩, 13), (⟨"FileStatusModel", "ahead", "(I)I"⟩, 13), (⟨"FileStatusModel", "reads", "()Z"⟩, 13), (⟨"FileStatusModel", "byOutcome", "(II)I"⟩, 13)]
theorem lw_r2 : ∀ q ∈ lw_privs_2, lw_okq q := List.forall_mem_cons.mpr ⟨lw_p16, List.forall_mem_cons.mpr ⟨lw_p17, List.forall_mem_cons.mpr ⟨lw_p18, List.forall_mem_cons.mpr ⟨lw_p19, fun _ h => absurd h List.not_mem_nil⟩⟩⟩⟩
def lw_privs : List (MethodName × Nat) := lw_privs_1 ++ (lw_privs_2)
def lw_tbl : List Cond := k2_sels lw_privs ++ tables_1
theorem lw_privs_ok : ∀ q ∈ lw_privs, lw_okq q := by
  show ∀ q ∈ lw_privs_1 ++ (lw_privs_2), lw_okq q
  exact List.forall_mem_append.mpr ⟨lw_r1, lw_r2⟩
end
section
/-! ===== BEGIN words of one list among another's, by their places ===== -/
theorem goodIn_r {big : List Cond} (ws : List Cond) (ps : List Nat) (hp : ws = ps.filterMap (fun i => big[i]?)) (h : ws.all goodWord = true) : GoodIn big ws := by
  intro w hw
  have h1 := List.all_eq_true.mp h w hw
  rw [hp] at hw
  obtain ⟨i, -, hi⟩ := List.mem_filterMap.mp hw
  have hm : w ∈ big := by first | exact List.mem_of_getElem? hi | exact List.getElem?_mem hi
  exact ⟨hm, good_of_word h1⟩
theorem goodIn_app {big a b : List Cond} (ha : GoodIn big a) (hb : GoodIn big b) : GoodIn big (a ++ b) := fun w h => (List.mem_append.mp h).elim (ha w) (hb w)
theorem goodIn_ca {big a b : List Cond} {c : Cond} (ha : GoodIn big (c :: a)) (hb : GoodIn big b) : GoodIn big (c :: (a ++ b)) := fun w h => (List.mem_cons.mp h).elim (fun e => ha w (List.mem_cons.mpr (Or.inl e))) (fun h => (List.mem_append.mp h).elim (fun h => ha w (List.mem_cons.mpr (Or.inr h))) (hb w))
theorem goodIn_sub {big ws : List Cond} (hm : ∀ w ∈ ws, w ∈ big) (h : ws.all goodWord = true) : GoodIn big ws := fun w hw => ⟨hm w hw, good_of_word (List.all_eq_true.mp h w hw)⟩
/-! ===== END ===== -/

/-! ===== BEGIN printed: names, fields, word lists, decode rows ===== -/
def RX0 : String := "FileStatus"
def TX0 : u_T := fun k => match k with
  | 0 => ("FileStatus", "organisation", "I", true)
  | 1 => ("FileStatus", "chosenMode", "I", false)
  | 2 => ("FileStatus", "isOpen", "Z", false)
  | 3 => ("FileStatus", "isOptional", "Z", false)
  | 4 => ("FileStatus", "place", "I", false)
  | 5 => ("FileStatus", "endIsNext", "Z", false)
  | 6 => ("FileStatus", "permit", "Z", false)
  | 7 => ("FileStatus", "latestStatus", "I", false)
  | 8 => ("FileStatus", "latestAct", "I", false)
  | 9 => ("FileStatus", "declaratives", "I", false)
  | 10 => ("FileStatus", "goodActs", "I", false)
  | _ => ("FileStatus", "badActsAndOpenings", "I", false)
def tyX0 : Nat → FieldType := fun k => match k with
  | 0 => .int
  | 1 => .int
  | 2 => .boolean
  | 3 => .boolean
  | 4 => .int
  | 5 => .boolean
  | 6 => .boolean
  | 7 => .int
  | 8 => .int
  | 9 => .int
  | 10 => .int
  | _ => .int
abbrev wsX00 : List Cond := u_ws RX0 TX0 12
theorem nmX0 : ∀ a, a < 12 → ∀ b, b < 12 → a ≠ b → (TX0 a).2.1 ≠ (TX0 b).2.1 := by decide +kernel
theorem tyX0_ok : ∀ k, k < 12 → parseFieldDescriptor (TX0 k).2.2.1 = some (tyX0 k) := by decide +kernel
abbrev cX0_init : ByteArray := prog_1_method_1_code
def yX0_init : MethodName := ⟨RX0, "<init>", "(I)V"⟩
abbrev cX0_mode : ByteArray := prog_1_method_2_code
def yX0_mode : MethodName := ⟨RX0, "mode", "(I)I"⟩
abbrev cX0_open : ByteArray := prog_1_method_3_code
def yX0_open : MethodName := ⟨RX0, "open", "(I)I"⟩
abbrev cX0_act : ByteArray := prog_1_method_4_code
def yX0_act : MethodName := ⟨RX0, "act", "(II)I"⟩
abbrev cX0_exception : ByteArray := prog_1_method_5_code
def yX0_exception : MethodName := ⟨RX0, "exception", "(I)I"⟩
abbrev cX0_phrase : ByteArray := prog_1_method_6_code
def yX0_phrase : MethodName := ⟨RX0, "phrase", "(Z)I"⟩
abbrev cX0_declarative : ByteArray := prog_1_method_7_code
def yX0_declarative : MethodName := ⟨RX0, "declarative", "(IZ)I"⟩
abbrev cX0_position : ByteArray := prog_1_method_8_code
def yX0_position : MethodName := ⟨RX0, "position", "(I)I"⟩
abbrev cX0_optional : ByteArray := prog_1_method_9_code
def yX0_optional : MethodName := ⟨RX0, "optional", "(Z)I"⟩
abbrev cX0_both : ByteArray := prog_1_method_10_code
def yX0_both : MethodName := ⟨RX0, "both", "(II)I"⟩
abbrev cX0_extended : ByteArray := prog_1_method_11_code
def yX0_extended : MethodName := ⟨RX0, "extended", "(I)I"⟩
abbrev cX0_area : ByteArray := prog_1_method_12_code
def yX0_area : MethodName := ⟨RX0, "area", "(I)I"⟩
abbrev cX0_count : ByteArray := prog_1_method_13_code
def yX0_count : MethodName := ⟨RX0, "count", "(I)I"⟩
abbrev cX0_statusOfOpening : ByteArray := prog_1_method_14_code
def yX0_statusOfOpening : MethodName := ⟨RX0, "statusOfOpening", "(I)I"⟩
abbrev cX0_statusOfMissingFile : ByteArray := prog_1_method_15_code
def yX0_statusOfMissingFile : MethodName := ⟨RX0, "statusOfMissingFile", "()I"⟩
abbrev cX0_statusOfAct : ByteArray := prog_1_method_16_code
def yX0_statusOfAct : MethodName := ⟨RX0, "statusOfAct", "(II)I"⟩
abbrev cX0_statusAheadOfOutcome : ByteArray := prog_1_method_17_code
def yX0_statusAheadOfOutcome : MethodName := ⟨RX0, "statusAheadOfOutcome", "(I)I"⟩
abbrev cX0_statusOfWrongMode : ByteArray := prog_1_method_18_code
def yX0_statusOfWrongMode : MethodName := ⟨RX0, "statusOfWrongMode", "(I)I"⟩
abbrev cX0_statusByOutcome : ByteArray := prog_1_method_19_code
def yX0_statusByOutcome : MethodName := ⟨RX0, "statusByOutcome", "(II)I"⟩
abbrev cX0_statusOfNoRecord : ByteArray := prog_1_method_20_code
def yX0_statusOfNoRecord : MethodName := ⟨RX0, "statusOfNoRecord", "(I)I"⟩
abbrev cX0_statusOfBarredDouble : ByteArray := prog_1_method_21_code
def yX0_statusOfBarredDouble : MethodName := ⟨RX0, "statusOfBarredDouble", "(I)I"⟩
abbrev cX0_statusOfNoRoom : ByteArray := prog_1_method_22_code
def yX0_statusOfNoRoom : MethodName := ⟨RX0, "statusOfNoRoom", "(I)I"⟩
abbrev cX0_statusOfLength : ByteArray := prog_1_method_23_code
def yX0_statusOfLength : MethodName := ⟨RX0, "statusOfLength", "(I)I"⟩
abbrev cX0_move : ByteArray := prog_1_method_24_code
def yX0_move : MethodName := ⟨RX0, "move", "(II)V"⟩
abbrev cX0_remember : ByteArray := prog_1_method_25_code
def yX0_remember : MethodName := ⟨RX0, "remember", "(II)V"⟩
abbrev cX0_hasDeclarative : ByteArray := prog_1_method_26_code
def yX0_hasDeclarative : MethodName := ⟨RX0, "hasDeclarative", "(I)Z"⟩
abbrev cX0_isForReading : ByteArray := prog_1_method_27_code
def yX0_isForReading : MethodName := ⟨RX0, "isForReading", "()Z"⟩
abbrev cX0_isForWriting : ByteArray := prog_1_method_28_code
def yX0_isForWriting : MethodName := ⟨RX0, "isForWriting", "()Z"⟩
abbrev cX0_placeAfter : ByteArray := prog_1_method_29_code
def yX0_placeAfter : MethodName := ⟨RX0, "placeAfter", "(II)I"⟩
abbrev cX0_givesPlace : ByteArray := prog_1_method_30_code
def yX0_givesPlace : MethodName := ⟨RX0, "givesPlace", "(I)Z"⟩
abbrev cX0_isRead : ByteArray := prog_1_method_31_code
def yX0_isRead : MethodName := ⟨RX0, "isRead", "(I)Z"⟩
abbrev cX0_isWriteOrRewrite : ByteArray := prog_1_method_32_code
def yX0_isWriteOrRewrite : MethodName := ⟨RX0, "isWriteOrRewrite", "(I)Z"⟩
abbrev cX0_isStatus : ByteArray := prog_1_method_33_code
def yX0_isStatus : MethodName := ⟨RX0, "isStatus", "(I)Z"⟩
def RX1 : String := "FileStatusModel"
def TX1 : u_T := fun k => match k with
  | 0 => ("FileStatusModel", "code", "I", false)
  | 1 => ("FileStatusModel", "organisation", "I", true)
  | 2 => ("FileStatusModel", "mode", "I", false)
  | 3 => ("FileStatusModel", "position", "I", false)
  | 4 => ("FileStatusModel", "latest", "I", false)
  | 5 => ("FileStatusModel", "act", "I", false)
  | 6 => ("FileStatusModel", "good", "I", false)
  | 7 => ("FileStatusModel", "bad", "I", false)
  | 8 => ("FileStatusModel", "isOpen", "Z", false)
  | 9 => ("FileStatusModel", "permit", "Z", false)
  | 10 => ("FileStatusModel", "optional", "Z", false)
  | 11 => ("FileStatusModel", "nothing", "Z", false)
  | _ => ("FileStatusModel", "declared", "[Z", true)
def tyX1 : Nat → FieldType := fun k => match k with
  | 0 => .int
  | 1 => .int
  | 2 => .int
  | 3 => .int
  | 4 => .int
  | 5 => .int
  | 6 => .int
  | 7 => .int
  | 8 => .boolean
  | 9 => .boolean
  | 10 => .boolean
  | 11 => .boolean
  | _ => .array .boolean
abbrev wsX10 : List Cond := u_ws RX1 TX1 13
theorem nmX1 : ∀ a, a < 13 → ∀ b, b < 13 → a ≠ b → (TX1 a).2.1 ≠ (TX1 b).2.1 := by decide +kernel
theorem tyX1_ok : ∀ k, k < 13 → parseFieldDescriptor (TX1 k).2.2.1 = some (tyX1 k) := by decide +kernel
abbrev cX1_init : ByteArray := prog_3_method_1_code
def yX1_init : MethodName := ⟨RX1, "<init>", "(I)V"⟩
abbrev cX1_mode : ByteArray := prog_3_method_3_code
def yX1_mode : MethodName := ⟨RX1, "mode", "(I)I"⟩
abbrev cX1_open : ByteArray := prog_3_method_5_code
def yX1_open : MethodName := ⟨RX1, "open", "(I)I"⟩
def RJ9 : String := "java/lang/Math"
def TJ9 : u_T := fun k => match k with
  | _ => ("", "", "", false)
def tyJ9 : Nat → FieldType := fun k => match k with
  | _ => .int
abbrev wsJ90 : List Cond := u_ws RJ9 TJ9 0
theorem nmJ9 : ∀ a, a < 0 → ∀ b, b < 0 → a ≠ b → (TJ9 a).2.1 ≠ (TJ9 b).2.1 := by decide +kernel
theorem tyJ9_ok : ∀ k, k < 0 → parseFieldDescriptor (TJ9 k).2.2.1 = some (tyJ9 k) := by decide +kernel
abbrev cJ9_max_7cf53 : ByteArray := prog_4_method_65_code
def yJ9_max_7cf53 : MethodName := ⟨RJ9, "max", "(II)I"⟩
abbrev cJ9_min_7cf53 : ByteArray := prog_4_method_69_code
def yJ9_min_7cf53 : MethodName := ⟨RJ9, "min", "(II)I"⟩
def wsX0_init : List Cond := .code yX0_init cX0_init 2 none :: ([.methodLink RX0 1 objectInit, .instanceMethod objectInit, .code objectInit ⟨#[0xb1]⟩ 1 none, .fieldLink RX0 9 "FileStatus" "chosenMode" "I", .fieldLink RX0 13 "FileStatus" "isOpen" "Z", .fieldLink RX0 17 "FileStatus" "isOptional" "Z", .fieldLink RX0 20 "FileStatus" "place" "I", .fieldLink RX0 23 "FileStatus" "endIsNext" "Z", .fieldLink RX0 26 "FileStatus" "permit" "Z", .fieldLink RX0 29 "FileStatus" "latestStatus" "I", .fieldLink RX0 32 "FileStatus" "latestAct" "I", .fieldLink RX0 35 "FileStatus" "declaratives" "I", .fieldLink RX0 38 "FileStatus" "goodActs" "I", .fieldLink RX0 41 "FileStatus" "badActsAndOpenings" "I", .methodLink RX0 44 Lib.Math.min.name, .static Lib.Math.min.name, .initialized "java/lang/Math", .code Lib.Math.min.name Lib.Math.min.code 2 (some .int), .methodLink RX0 50 Lib.Math.max.name, .static Lib.Math.max.name, .code Lib.Math.max.name Lib.Math.max.code 2 (some .int), .fieldLink RX0 53 "FileStatus" "organisation" "I"] ++ wsX00)
def wsX0_mode : List Cond := .code yX0_mode cX0_mode 3 (some .int) :: ([.fieldLink RX0 13 "FileStatus" "isOpen" "Z", .fieldLink RX0 9 "FileStatus" "chosenMode" "I"] ++ wsX00)
def wsX0_statusOfMissingFile : List Cond := .code yX0_statusOfMissingFile cX0_statusOfMissingFile 1 (some .int) :: ([.fieldLink RX0 9 "FileStatus" "chosenMode" "I", .fieldLink RX0 17 "FileStatus" "isOptional" "Z"] ++ wsX00)
def wsX0_statusOfOpening : List Cond := .code yX0_statusOfOpening cX0_statusOfOpening 2 (some .int) :: ([.fieldLink RX0 13 "FileStatus" "isOpen" "Z", .methodLink RX0 93 yX0_statusOfMissingFile, .instanceMethod yX0_statusOfMissingFile, .selects RX0 yX0_statusOfMissingFile yX0_statusOfMissingFile, .initialized RX0, .code yX0_statusOfMissingFile cX0_statusOfMissingFile 1 (some .int), .fieldLink RX0 9 "FileStatus" "chosenMode" "I", .fieldLink RX0 17 "FileStatus" "isOptional" "Z"] ++ wsX00)
def wsX0_isForReading : List Cond := .code yX0_isForReading cX0_isForReading 1 (some .boolean) :: ([.fieldLink RX0 9 "FileStatus" "chosenMode" "I"] ++ wsX00)
def wsX0_remember : List Cond := .code yX0_remember cX0_remember 3 none :: ([.fieldLink RX0 32 "FileStatus" "latestAct" "I", .fieldLink RX0 29 "FileStatus" "latestStatus" "I", .fieldLink RX0 41 "FileStatus" "badActsAndOpenings" "I", .fieldLink RX0 38 "FileStatus" "goodActs" "I"] ++ wsX00)
def wsX0_open_r1 : List Cond := [Cond.fieldLink RX0 13 "FileStatus" "isOpen" "Z", Cond.fieldLink RX0 20 "FileStatus" "place" "I", Cond.fieldLink RX0 23 "FileStatus" "endIsNext" "Z", Cond.fieldLink RX0 26 "FileStatus" "permit" "Z", Cond.methodLink RX0 56 yX0_statusOfOpening, Cond.instanceMethod yX0_statusOfOpening, Cond.selects RX0 yX0_statusOfOpening yX0_statusOfOpening, Cond.initialized RX0, Cond.code yX0_statusOfOpening cX0_statusOfOpening 2 (some .int), Cond.methodLink RX0 93 yX0_statusOfMissingFile, Cond.instanceMethod yX0_statusOfMissingFile, Cond.selects RX0 yX0_statusOfMissingFile yX0_statusOfMissingFile, Cond.code yX0_statusOfMissingFile cX0_statusOfMissingFile 1 (some .int), Cond.fieldLink RX0 9 "FileStatus" "chosenMode" "I", Cond.fieldLink RX0 17 "FileStatus" "isOptional" "Z", Cond.methodLink RX0 60 yX0_isForReading, Cond.instanceMethod yX0_isForReading, Cond.selects RX0 yX0_isForReading yX0_isForReading, Cond.code yX0_isForReading cX0_isForReading 1 (some .boolean), Cond.methodLink RX0 64 yX0_remember, Cond.instanceMethod yX0_remember, Cond.selects RX0 yX0_remember yX0_remember, Cond.code yX0_remember cX0_remember 3 none, Cond.fieldLink RX0 32 "FileStatus" "latestAct" "I"]
def wsX0_open_r2 : List Cond := [Cond.fieldLink RX0 29 "FileStatus" "latestStatus" "I", Cond.fieldLink RX0 41 "FileStatus" "badActsAndOpenings" "I", Cond.fieldLink RX0 38 "FileStatus" "goodActs" "I"]
def wsX0_open : List Cond := .code yX0_open cX0_open 3 (some .int) :: ((wsX0_open_r1 ++ wsX0_open_r2) ++ wsX00)
def wsX0_isForWriting : List Cond := .code yX0_isForWriting cX0_isForWriting 1 (some .boolean) :: ([.fieldLink RX0 9 "FileStatus" "chosenMode" "I", .fieldLink RX0 53 "FileStatus" "organisation" "I"] ++ wsX00)
def wsX0_statusOfWrongMode : List Cond := .code yX0_statusOfWrongMode cX0_statusOfWrongMode 2 (some .int) :: ([.fieldLink RX0 9 "FileStatus" "chosenMode" "I", .methodLink RX0 60 yX0_isForReading, .instanceMethod yX0_isForReading, .selects RX0 yX0_isForReading yX0_isForReading, .initialized RX0, .code yX0_isForReading cX0_isForReading 1 (some .boolean), .methodLink RX0 106 yX0_isForWriting, .instanceMethod yX0_isForWriting, .selects RX0 yX0_isForWriting yX0_isForWriting, .code yX0_isForWriting cX0_isForWriting 1 (some .boolean), .fieldLink RX0 53 "FileStatus" "organisation" "I"] ++ wsX00)
def wsX0_statusAheadOfOutcome : List Cond := .code yX0_statusAheadOfOutcome cX0_statusAheadOfOutcome 3 (some .int) :: ([.fieldLink RX0 13 "FileStatus" "isOpen" "Z", .fieldLink RX0 53 "FileStatus" "organisation" "I", .fieldLink RX0 26 "FileStatus" "permit" "Z", .fieldLink RX0 20 "FileStatus" "place" "I", .methodLink RX0 103 yX0_statusOfWrongMode, .instanceMethod yX0_statusOfWrongMode, .selects RX0 yX0_statusOfWrongMode yX0_statusOfWrongMode, .initialized RX0, .code yX0_statusOfWrongMode cX0_statusOfWrongMode 2 (some .int), .fieldLink RX0 9 "FileStatus" "chosenMode" "I", .methodLink RX0 60 yX0_isForReading, .instanceMethod yX0_isForReading, .selects RX0 yX0_isForReading yX0_isForReading, .code yX0_isForReading cX0_isForReading 1 (some .boolean), .methodLink RX0 106 yX0_isForWriting, .instanceMethod yX0_isForWriting, .selects RX0 yX0_isForWriting yX0_isForWriting, .code yX0_isForWriting cX0_isForWriting 1 (some .boolean)] ++ wsX00)
def wsX0_statusOfNoRecord : List Cond := .code yX0_statusOfNoRecord cX0_statusOfNoRecord 2 (some .int) :: ([.fieldLink RX0 53 "FileStatus" "organisation" "I"] ++ wsX00)
def wsX0_statusOfBarredDouble : List Cond := .code yX0_statusOfBarredDouble cX0_statusOfBarredDouble 4 (some .int) :: ([.fieldLink RX0 53 "FileStatus" "organisation" "I"] ++ wsX00)
def wsX0_statusOfNoRoom : List Cond := .code yX0_statusOfNoRoom cX0_statusOfNoRoom 2 (some .int) :: ([.fieldLink RX0 53 "FileStatus" "organisation" "I"] ++ wsX00)
def wsX0_isRead : List Cond := .code yX0_isRead cX0_isRead 1 (some .boolean) :: ([])
def wsX0_isWriteOrRewrite : List Cond := .code yX0_isWriteOrRewrite cX0_isWriteOrRewrite 1 (some .boolean) :: ([])
def wsX0_statusOfLength : List Cond := .code yX0_statusOfLength cX0_statusOfLength 2 (some .int) :: ([.methodLink RX0 74 yX0_isRead, .static yX0_isRead, .initialized RX0, .code yX0_isRead cX0_isRead 1 (some .boolean), .methodLink RX0 121 yX0_isWriteOrRewrite, .static yX0_isWriteOrRewrite, .code yX0_isWriteOrRewrite cX0_isWriteOrRewrite 1 (some .boolean)])
def wsX0_statusByOutcome : List Cond := .code yX0_statusByOutcome cX0_statusByOutcome 3 (some .int) :: ([.fieldLink RX0 53 "FileStatus" "organisation" "I", .methodLink RX0 109 yX0_statusOfNoRecord, .instanceMethod yX0_statusOfNoRecord, .selects RX0 yX0_statusOfNoRecord yX0_statusOfNoRecord, .initialized RX0, .code yX0_statusOfNoRecord cX0_statusOfNoRecord 2 (some .int), .methodLink RX0 112 yX0_statusOfBarredDouble, .instanceMethod yX0_statusOfBarredDouble, .selects RX0 yX0_statusOfBarredDouble yX0_statusOfBarredDouble, .code yX0_statusOfBarredDouble cX0_statusOfBarredDouble 4 (some .int), .methodLink RX0 115 yX0_statusOfNoRoom, .instanceMethod yX0_statusOfNoRoom, .selects RX0 yX0_statusOfNoRoom yX0_statusOfNoRoom, .code yX0_statusOfNoRoom cX0_statusOfNoRoom 2 (some .int), .methodLink RX0 118 yX0_statusOfLength, .instanceMethod yX0_statusOfLength, .selects RX0 yX0_statusOfLength yX0_statusOfLength, .code yX0_statusOfLength cX0_statusOfLength 2 (some .int), .methodLink RX0 74 yX0_isRead, .static yX0_isRead, .code yX0_isRead cX0_isRead 1 (some .boolean), .methodLink RX0 121 yX0_isWriteOrRewrite, .static yX0_isWriteOrRewrite, .code yX0_isWriteOrRewrite cX0_isWriteOrRewrite 1 (some .boolean)] ++ wsX00)
def wsX0_statusOfAct_r1 : List Cond := [Cond.fieldLink RX0 23 "FileStatus" "endIsNext" "Z", Cond.methodLink RX0 97 yX0_statusAheadOfOutcome, Cond.instanceMethod yX0_statusAheadOfOutcome, Cond.selects RX0 yX0_statusAheadOfOutcome yX0_statusAheadOfOutcome, Cond.initialized RX0, Cond.code yX0_statusAheadOfOutcome cX0_statusAheadOfOutcome 3 (some .int), Cond.fieldLink RX0 13 "FileStatus" "isOpen" "Z", Cond.fieldLink RX0 53 "FileStatus" "organisation" "I", Cond.fieldLink RX0 26 "FileStatus" "permit" "Z", Cond.fieldLink RX0 20 "FileStatus" "place" "I", Cond.methodLink RX0 103 yX0_statusOfWrongMode, Cond.instanceMethod yX0_statusOfWrongMode, Cond.selects RX0 yX0_statusOfWrongMode yX0_statusOfWrongMode, Cond.code yX0_statusOfWrongMode cX0_statusOfWrongMode 2 (some .int), Cond.fieldLink RX0 9 "FileStatus" "chosenMode" "I", Cond.methodLink RX0 60 yX0_isForReading, Cond.instanceMethod yX0_isForReading, Cond.selects RX0 yX0_isForReading yX0_isForReading, Cond.code yX0_isForReading cX0_isForReading 1 (some .boolean), Cond.methodLink RX0 106 yX0_isForWriting, Cond.instanceMethod yX0_isForWriting, Cond.selects RX0 yX0_isForWriting yX0_isForWriting, Cond.code yX0_isForWriting cX0_isForWriting 1 (some .boolean), Cond.methodLink RX0 100 yX0_statusByOutcome]
def wsX0_statusOfAct_r2 : List Cond := [Cond.instanceMethod yX0_statusByOutcome, Cond.selects RX0 yX0_statusByOutcome yX0_statusByOutcome, Cond.code yX0_statusByOutcome cX0_statusByOutcome 3 (some .int), Cond.methodLink RX0 109 yX0_statusOfNoRecord, Cond.instanceMethod yX0_statusOfNoRecord, Cond.selects RX0 yX0_statusOfNoRecord yX0_statusOfNoRecord, Cond.code yX0_statusOfNoRecord cX0_statusOfNoRecord 2 (some .int), Cond.methodLink RX0 112 yX0_statusOfBarredDouble, Cond.instanceMethod yX0_statusOfBarredDouble, Cond.selects RX0 yX0_statusOfBarredDouble yX0_statusOfBarredDouble, Cond.code yX0_statusOfBarredDouble cX0_statusOfBarredDouble 4 (some .int), Cond.methodLink RX0 115 yX0_statusOfNoRoom, Cond.instanceMethod yX0_statusOfNoRoom, Cond.selects RX0 yX0_statusOfNoRoom yX0_statusOfNoRoom, Cond.code yX0_statusOfNoRoom cX0_statusOfNoRoom 2 (some .int), Cond.methodLink RX0 118 yX0_statusOfLength, Cond.instanceMethod yX0_statusOfLength, Cond.selects RX0 yX0_statusOfLength yX0_statusOfLength, Cond.code yX0_statusOfLength cX0_statusOfLength 2 (some .int), Cond.methodLink RX0 74 yX0_isRead, Cond.static yX0_isRead, Cond.code yX0_isRead cX0_isRead 1 (some .boolean), Cond.methodLink RX0 121 yX0_isWriteOrRewrite, Cond.static yX0_isWriteOrRewrite]
def wsX0_statusOfAct_r3 : List Cond := [Cond.code yX0_isWriteOrRewrite cX0_isWriteOrRewrite 1 (some .boolean)]
def wsX0_statusOfAct : List Cond := .code yX0_statusOfAct cX0_statusOfAct 4 (some .int) :: ((wsX0_statusOfAct_r1 ++ (wsX0_statusOfAct_r2 ++ wsX0_statusOfAct_r3)) ++ wsX00)
def wsX0_givesPlace : List Cond := .code yX0_givesPlace cX0_givesPlace 1 (some .boolean) :: ([])
def wsX0_placeAfter : List Cond := .code yX0_placeAfter cX0_placeAfter 2 (some .int) :: ([.methodLink RX0 78 yX0_givesPlace, .static yX0_givesPlace, .initialized RX0, .code yX0_givesPlace cX0_givesPlace 1 (some .boolean)])
def wsX0_move : List Cond := .code yX0_move cX0_move 3 none :: ([.fieldLink RX0 20 "FileStatus" "place" "I", .fieldLink RX0 13 "FileStatus" "isOpen" "Z", .methodLink RX0 74 yX0_isRead, .static yX0_isRead, .initialized RX0, .code yX0_isRead cX0_isRead 1 (some .boolean), .methodLink RX0 90 yX0_placeAfter, .static yX0_placeAfter, .code yX0_placeAfter cX0_placeAfter 2 (some .int), .methodLink RX0 78 yX0_givesPlace, .static yX0_givesPlace, .code yX0_givesPlace cX0_givesPlace 1 (some .boolean)] ++ wsX00)
def wsX0_act_r1 : List Cond := [Cond.fieldLink RX0 23 "FileStatus" "endIsNext" "Z", Cond.fieldLink RX0 26 "FileStatus" "permit" "Z", Cond.methodLink RX0 68 yX0_statusOfAct, Cond.instanceMethod yX0_statusOfAct, Cond.selects RX0 yX0_statusOfAct yX0_statusOfAct, Cond.initialized RX0, Cond.code yX0_statusOfAct cX0_statusOfAct 4 (some .int), Cond.methodLink RX0 97 yX0_statusAheadOfOutcome, Cond.instanceMethod yX0_statusAheadOfOutcome, Cond.selects RX0 yX0_statusAheadOfOutcome yX0_statusAheadOfOutcome, Cond.code yX0_statusAheadOfOutcome cX0_statusAheadOfOutcome 3 (some .int), Cond.fieldLink RX0 13 "FileStatus" "isOpen" "Z", Cond.fieldLink RX0 53 "FileStatus" "organisation" "I", Cond.fieldLink RX0 20 "FileStatus" "place" "I", Cond.methodLink RX0 103 yX0_statusOfWrongMode, Cond.instanceMethod yX0_statusOfWrongMode, Cond.selects RX0 yX0_statusOfWrongMode yX0_statusOfWrongMode, Cond.code yX0_statusOfWrongMode cX0_statusOfWrongMode 2 (some .int), Cond.fieldLink RX0 9 "FileStatus" "chosenMode" "I", Cond.methodLink RX0 60 yX0_isForReading, Cond.instanceMethod yX0_isForReading, Cond.selects RX0 yX0_isForReading yX0_isForReading, Cond.code yX0_isForReading cX0_isForReading 1 (some .boolean), Cond.methodLink RX0 106 yX0_isForWriting]
def wsX0_act_r2 : List Cond := [Cond.instanceMethod yX0_isForWriting, Cond.selects RX0 yX0_isForWriting yX0_isForWriting, Cond.code yX0_isForWriting cX0_isForWriting 1 (some .boolean), Cond.methodLink RX0 100 yX0_statusByOutcome, Cond.instanceMethod yX0_statusByOutcome, Cond.selects RX0 yX0_statusByOutcome yX0_statusByOutcome, Cond.code yX0_statusByOutcome cX0_statusByOutcome 3 (some .int), Cond.methodLink RX0 109 yX0_statusOfNoRecord, Cond.instanceMethod yX0_statusOfNoRecord, Cond.selects RX0 yX0_statusOfNoRecord yX0_statusOfNoRecord, Cond.code yX0_statusOfNoRecord cX0_statusOfNoRecord 2 (some .int), Cond.methodLink RX0 112 yX0_statusOfBarredDouble, Cond.instanceMethod yX0_statusOfBarredDouble, Cond.selects RX0 yX0_statusOfBarredDouble yX0_statusOfBarredDouble, Cond.code yX0_statusOfBarredDouble cX0_statusOfBarredDouble 4 (some .int), Cond.methodLink RX0 115 yX0_statusOfNoRoom, Cond.instanceMethod yX0_statusOfNoRoom, Cond.selects RX0 yX0_statusOfNoRoom yX0_statusOfNoRoom, Cond.code yX0_statusOfNoRoom cX0_statusOfNoRoom 2 (some .int), Cond.methodLink RX0 118 yX0_statusOfLength, Cond.instanceMethod yX0_statusOfLength, Cond.selects RX0 yX0_statusOfLength yX0_statusOfLength, Cond.code yX0_statusOfLength cX0_statusOfLength 2 (some .int), Cond.methodLink RX0 74 yX0_isRead]
def wsX0_act_r3 : List Cond := [Cond.static yX0_isRead, Cond.code yX0_isRead cX0_isRead 1 (some .boolean), Cond.methodLink RX0 121 yX0_isWriteOrRewrite, Cond.static yX0_isWriteOrRewrite, Cond.code yX0_isWriteOrRewrite cX0_isWriteOrRewrite 1 (some .boolean), Cond.methodLink RX0 71 yX0_move, Cond.instanceMethod yX0_move, Cond.selects RX0 yX0_move yX0_move, Cond.code yX0_move cX0_move 3 none, Cond.methodLink RX0 90 yX0_placeAfter, Cond.static yX0_placeAfter, Cond.code yX0_placeAfter cX0_placeAfter 2 (some .int), Cond.methodLink RX0 78 yX0_givesPlace, Cond.static yX0_givesPlace, Cond.code yX0_givesPlace cX0_givesPlace 1 (some .boolean), Cond.methodLink RX0 64 yX0_remember, Cond.instanceMethod yX0_remember, Cond.selects RX0 yX0_remember yX0_remember, Cond.code yX0_remember cX0_remember 3 none, Cond.fieldLink RX0 32 "FileStatus" "latestAct" "I", Cond.fieldLink RX0 29 "FileStatus" "latestStatus" "I", Cond.fieldLink RX0 41 "FileStatus" "badActsAndOpenings" "I", Cond.fieldLink RX0 38 "FileStatus" "goodActs" "I"]
def wsX0_act : List Cond := .code yX0_act cX0_act 4 (some .int) :: ((wsX0_act_r1 ++ (wsX0_act_r2 ++ wsX0_act_r3)) ++ wsX00)
def wsX0_isStatus : List Cond := .code yX0_isStatus cX0_isStatus 1 (some .boolean) :: ([])
def wsX0_exception : List Cond := .code yX0_exception cX0_exception 3 (some .int) :: ([.methodLink RX0 81 yX0_isStatus, .static yX0_isStatus, .initialized RX0, .code yX0_isStatus cX0_isStatus 1 (some .boolean)])
def wsX0_hasDeclarative : List Cond := .code yX0_hasDeclarative cX0_hasDeclarative 2 (some .boolean) :: ([.fieldLink RX0 35 "FileStatus" "declaratives" "I"] ++ wsX00)
def wsX0_phrase : List Cond := .code yX0_phrase cX0_phrase 4 (some .int) :: ([.fieldLink RX0 29 "FileStatus" "latestStatus" "I", .methodLink RX0 84 yX0_exception, .instanceMethod yX0_exception, .selects RX0 yX0_exception yX0_exception, .initialized RX0, .code yX0_exception cX0_exception 3 (some .int), .methodLink RX0 81 yX0_isStatus, .static yX0_isStatus, .code yX0_isStatus cX0_isStatus 1 (some .boolean), .methodLink RX0 87 yX0_hasDeclarative, .instanceMethod yX0_hasDeclarative, .selects RX0 yX0_hasDeclarative yX0_hasDeclarative, .code yX0_hasDeclarative cX0_hasDeclarative 2 (some .boolean), .fieldLink RX0 35 "FileStatus" "declaratives" "I"] ++ wsX00)
def wsX0_declarative : List Cond := .code yX0_declarative cX0_declarative 5 (some .int) :: ([.fieldLink RX0 35 "FileStatus" "declaratives" "I", .methodLink RX0 87 yX0_hasDeclarative, .instanceMethod yX0_hasDeclarative, .selects RX0 yX0_hasDeclarative yX0_hasDeclarative, .initialized RX0, .code yX0_hasDeclarative cX0_hasDeclarative 2 (some .boolean)] ++ wsX00)
def wsX0_position : List Cond := .code yX0_position cX0_position 2 (some .int) :: ([.methodLink RX0 81 yX0_isStatus, .static yX0_isStatus, .initialized RX0, .code yX0_isStatus cX0_isStatus 1 (some .boolean), .methodLink RX0 90 yX0_placeAfter, .static yX0_placeAfter, .code yX0_placeAfter cX0_placeAfter 2 (some .int), .methodLink RX0 78 yX0_givesPlace, .static yX0_givesPlace, .code yX0_givesPlace cX0_givesPlace 1 (some .boolean)])
def wsX0_optional : List Cond := .code yX0_optional cX0_optional 3 (some .int) :: ([.fieldLink RX0 13 "FileStatus" "isOpen" "Z", .fieldLink RX0 17 "FileStatus" "isOptional" "Z"] ++ wsX00)
def wsX0_both : List Cond := .code yX0_both cX0_both 5 (some .int) :: ([.methodLink RX0 44 Lib.Math.min.name, .static Lib.Math.min.name, .initialized "java/lang/Math", .code Lib.Math.min.name Lib.Math.min.code 2 (some .int), .methodLink RX0 81 yX0_isStatus, .static yX0_isStatus, .initialized RX0, .code yX0_isStatus cX0_isStatus 1 (some .boolean), .methodLink RX0 84 yX0_exception, .instanceMethod yX0_exception, .selects RX0 yX0_exception yX0_exception, .code yX0_exception cX0_exception 3 (some .int)])
def wsX0_extended : List Cond := .code yX0_extended cX0_extended 2 (some .int) :: ([.fieldLink RX0 53 "FileStatus" "organisation" "I", .fieldLink RX0 32 "FileStatus" "latestAct" "I", .methodLink RX0 81 yX0_isStatus, .static yX0_isStatus, .initialized RX0, .code yX0_isStatus cX0_isStatus 1 (some .boolean)] ++ wsX00)
def wsX0_area : List Cond := .code yX0_area cX0_area 2 (some .int) :: ([.methodLink RX0 81 yX0_isStatus, .static yX0_isStatus, .initialized RX0, .code yX0_isStatus cX0_isStatus 1 (some .boolean)])
def wsX0_count : List Cond := .code yX0_count cX0_count 2 (some .int) :: ([.fieldLink RX0 13 "FileStatus" "isOpen" "Z", .fieldLink RX0 9 "FileStatus" "chosenMode" "I", .fieldLink RX0 20 "FileStatus" "place" "I", .fieldLink RX0 26 "FileStatus" "permit" "Z", .fieldLink RX0 29 "FileStatus" "latestStatus" "I", .fieldLink RX0 38 "FileStatus" "goodActs" "I", .fieldLink RX0 41 "FileStatus" "badActsAndOpenings" "I", .fieldLink RX0 53 "FileStatus" "organisation" "I"] ++ wsX00)
def wsX1_init : List Cond := .code yX1_init cX1_init 2 none :: ([.methodLink RX1 1 objectInit, .instanceMethod objectInit, .code objectInit ⟨#[0xb1]⟩ 1 none, .fieldLink RX1 7 "FileStatusModel" "act" "I", .arrayClass .boolean, .fieldLink RX1 13 "FileStatusModel" "declared" "[Z", .fieldLink RX1 17 "FileStatusModel" "organisation" "I"] ++ wsX10)
def wsX1_mode : List Cond := .code yX1_mode cX1_mode 3 (some .int) :: ([.fieldLink RX1 20 "FileStatusModel" "code" "I", .fieldLink RX1 23 "FileStatusModel" "isOpen" "Z", .fieldLink RX1 27 "FileStatusModel" "mode" "I"] ++ wsX10)
def wsX1_open : List Cond := .code yX1_open cX1_open 4 (some .int) :: ([.fieldLink RX1 20 "FileStatusModel" "code" "I", .fieldLink RX1 33 "FileStatusModel" "good" "I", .fieldLink RX1 47 "FileStatusModel" "permit" "Z", .fieldLink RX1 23 "FileStatusModel" "isOpen" "Z", .fieldLink RX1 50 "FileStatusModel" "position" "I", .fieldLink RX1 27 "FileStatusModel" "mode" "I", .fieldLink RX1 53 "FileStatusModel" "nothing" "Z"] ++ wsX10)
def wsJ9_max_7cf53 : List Cond := .code yJ9_max_7cf53 cJ9_max_7cf53 2 (some .int) :: ([])
def wsJ9_min_7cf53 : List Cond := .code yJ9_min_7cf53 cJ9_min_7cf53 2 (some .int) :: ([])
theorem dX0_init_0 : decode cX0_init 0 = .ok (.aload_n 0, 1) := by decide +kernel
theorem dX0_init_1 : decode cX0_init 1 = .ok (.invokespecial 1, 3) := by decide +kernel
theorem dX0_init_4 : decode cX0_init 4 = .ok (.aload_n 0, 1) := by decide +kernel
theorem dX0_init_5 : decode cX0_init 5 = .ok (.iconst 0, 1) := by decide +kernel
theorem dX0_init_6 : decode cX0_init 6 = .ok (.putfield 9, 3) := by decide +kernel
theorem dX0_init_9 : decode cX0_init 9 = .ok (.aload_n 0, 1) := by decide +kernel
theorem dX0_init_10 : decode cX0_init 10 = .ok (.iconst 0, 1) := by decide +kernel
theorem dX0_init_11 : decode cX0_init 11 = .ok (.putfield 13, 3) := by decide +kernel
theorem dX0_init_14 : decode cX0_init 14 = .ok (.aload_n 0, 1) := by decide +kernel
theorem dX0_init_15 : decode cX0_init 15 = .ok (.iconst 0, 1) := by decide +kernel
theorem dX0_init_16 : decode cX0_init 16 = .ok (.putfield 17, 3) := by decide +kernel
theorem dX0_init_19 : decode cX0_init 19 = .ok (.aload_n 0, 1) := by decide +kernel
theorem dX0_init_20 : decode cX0_init 20 = .ok (.iconst 0, 1) := by decide +kernel
theorem dX0_init_21 : decode cX0_init 21 = .ok (.putfield 20, 3) := by decide +kernel
theorem dX0_init_24 : decode cX0_init 24 = .ok (.aload_n 0, 1) := by decide +kernel
theorem dX0_init_25 : decode cX0_init 25 = .ok (.iconst 0, 1) := by decide +kernel
theorem dX0_init_26 : decode cX0_init 26 = .ok (.putfield 23, 3) := by decide +kernel
theorem dX0_init_29 : decode cX0_init 29 = .ok (.aload_n 0, 1) := by decide +kernel
theorem dX0_init_30 : decode cX0_init 30 = .ok (.iconst 0, 1) := by decide +kernel
theorem dX0_init_31 : decode cX0_init 31 = .ok (.putfield 26, 3) := by decide +kernel
theorem dX0_init_34 : decode cX0_init 34 = .ok (.aload_n 0, 1) := by decide +kernel
theorem dX0_init_35 : decode cX0_init 35 = .ok (.iconst 0, 1) := by decide +kernel
theorem dX0_init_36 : decode cX0_init 36 = .ok (.putfield 29, 3) := by decide +kernel
theorem dX0_init_39 : decode cX0_init 39 = .ok (.aload_n 0, 1) := by decide +kernel
theorem dX0_init_40 : decode cX0_init 40 = .ok (.bipush 9, 2) := by decide +kernel
theorem dX0_init_42 : decode cX0_init 42 = .ok (.putfield 32, 3) := by decide +kernel
theorem dX0_init_45 : decode cX0_init 45 = .ok (.aload_n 0, 1) := by decide +kernel
theorem dX0_init_46 : decode cX0_init 46 = .ok (.iconst 0, 1) := by decide +kernel
theorem dX0_init_47 : decode cX0_init 47 = .ok (.putfield 35, 3) := by decide +kernel
theorem dX0_init_50 : decode cX0_init 50 = .ok (.aload_n 0, 1) := by decide +kernel
theorem dX0_init_51 : decode cX0_init 51 = .ok (.iconst 0, 1) := by decide +kernel
theorem dX0_init_52 : decode cX0_init 52 = .ok (.putfield 38, 3) := by decide +kernel
theorem dX0_init_55 : decode cX0_init 55 = .ok (.aload_n 0, 1) := by decide +kernel
theorem dX0_init_56 : decode cX0_init 56 = .ok (.iconst 0, 1) := by decide +kernel
theorem dX0_init_57 : decode cX0_init 57 = .ok (.putfield 41, 3) := by decide +kernel
theorem dX0_init_60 : decode cX0_init 60 = .ok (.aload_n 0, 1) := by decide +kernel
theorem dX0_init_61 : decode cX0_init 61 = .ok (.iconst 0, 1) := by decide +kernel
theorem dX0_init_62 : decode cX0_init 62 = .ok (.iconst 2, 1) := by decide +kernel
theorem dX0_init_63 : decode cX0_init 63 = .ok (.iload_n 1, 1) := by decide +kernel
theorem dX0_init_64 : decode cX0_init 64 = .ok (.invokestatic 44, 3) := by decide +kernel
theorem dX0_init_67 : decode cX0_init 67 = .ok (.invokestatic 50, 3) := by decide +kernel
theorem dX0_init_70 : decode cX0_init 70 = .ok (.putfield 53, 3) := by decide +kernel
theorem dX0_init_73 : decode cX0_init 73 = .ok (.return_, 1) := by decide +kernel
theorem dX0_mode_0 : decode cX0_mode 0 = .ok (.aload_n 0, 1) := by decide +kernel
theorem dX0_mode_1 : decode cX0_mode 1 = .ok (.getfield 13, 3) := by decide +kernel
theorem dX0_mode_4 : decode cX0_mode 4 = .ok (.ifCond .eq 6, 3) := by decide +kernel
theorem dX0_mode_7 : decode cX0_mode 7 = .ok (.bipush (-5), 2) := by decide +kernel
theorem dX0_mode_9 : decode cX0_mode 9 = .ok (.ireturn, 1) := by decide +kernel
theorem dX0_mode_10 : decode cX0_mode 10 = .ok (.iload_n 1, 1) := by decide +kernel
theorem dX0_mode_11 : decode cX0_mode 11 = .ok (.ifCond .lt 8, 3) := by decide +kernel
theorem dX0_mode_14 : decode cX0_mode 14 = .ok (.iload_n 1, 1) := by decide +kernel
theorem dX0_mode_15 : decode cX0_mode 15 = .ok (.iconst 3, 1) := by decide +kernel
theorem dX0_mode_16 : decode cX0_mode 16 = .ok (.if_icmp .le 6, 3) := by decide +kernel
theorem dX0_mode_19 : decode cX0_mode 19 = .ok (.bipush (-4), 2) := by decide +kernel
theorem dX0_mode_21 : decode cX0_mode 21 = .ok (.ireturn, 1) := by decide +kernel
theorem dX0_mode_22 : decode cX0_mode 22 = .ok (.aload_n 0, 1) := by decide +kernel
theorem dX0_mode_23 : decode cX0_mode 23 = .ok (.getfield 9, 3) := by decide +kernel
theorem dX0_mode_26 : decode cX0_mode 26 = .ok (.istore_n 2, 1) := by decide +kernel
theorem dX0_mode_27 : decode cX0_mode 27 = .ok (.aload_n 0, 1) := by decide +kernel
theorem dX0_mode_28 : decode cX0_mode 28 = .ok (.iload_n 1, 1) := by decide +kernel
theorem dX0_mode_29 : decode cX0_mode 29 = .ok (.putfield 9, 3) := by decide +kernel
theorem dX0_mode_32 : decode cX0_mode 32 = .ok (.iload_n 2, 1) := by decide +kernel
theorem dX0_mode_33 : decode cX0_mode 33 = .ok (.ireturn, 1) := by decide +kernel
set_option maxRecDepth 20000 in
theorem ggX0_open_X0_statusOfOpening : GoodIn wsX0_open wsX0_statusOfOpening := goodIn_r _ [9, 1, 10, 11, 12, 8, 13, 14, 15, 28, 29, 30, 31, 32, 33, 34, 35, 36, 37, 38, 39] (by decide +kernel) (by decide +kernel)
set_option maxRecDepth 20000 in
theorem gX0_open_X0_statusOfOpening : GoodIn wsX0_open (wsV RX0 56 RX0 yX0_statusOfOpening wsX0_statusOfOpening) := goodIn_app (goodIn_of _ (by decide +kernel)) ggX0_open_X0_statusOfOpening
set_option maxRecDepth 20000 in
theorem ggX0_open_X0_isForReading : GoodIn wsX0_open wsX0_isForReading := goodIn_r _ [19, 14, 28, 29, 30, 31, 32, 33, 34, 35, 36, 37, 38, 39] (by decide +kernel) (by decide +kernel)
set_option maxRecDepth 20000 in
theorem gX0_open_X0_isForReading : GoodIn wsX0_open (wsV RX0 60 RX0 yX0_isForReading wsX0_isForReading) := goodIn_app (goodIn_of _ (by decide +kernel)) ggX0_open_X0_isForReading
set_option maxRecDepth 20000 in
theorem ggX0_open_X0_remember : GoodIn wsX0_open wsX0_remember := goodIn_r _ [23, 24, 25, 26, 27, 28, 29, 30, 31, 32, 33, 34, 35, 36, 37, 38, 39] (by decide +kernel) (by decide +kernel)
set_option maxRecDepth 20000 in
theorem gX0_open_X0_remember : GoodIn wsX0_open (wsV RX0 64 RX0 yX0_remember wsX0_remember) := goodIn_app (goodIn_of _ (by decide +kernel)) ggX0_open_X0_remember
theorem dX0_open_0 : decode cX0_open 0 = .ok (.aload_n 0, 1) := by decide +kernel
theorem dX0_open_1 : decode cX0_open 1 = .ok (.iload_n 1, 1) := by decide +kernel
theorem dX0_open_2 : decode cX0_open 2 = .ok (.invokevirtual 56, 3) := by decide +kernel
theorem dX0_open_5 : decode cX0_open 5 = .ok (.istore_n 2, 1) := by decide +kernel
theorem dX0_open_6 : decode cX0_open 6 = .ok (.iload_n 2, 1) := by decide +kernel
theorem dX0_open_7 : decode cX0_open 7 = .ok (.ifCond .eq 8, 3) := by decide +kernel
theorem dX0_open_10 : decode cX0_open 10 = .ok (.iload_n 2, 1) := by decide +kernel
theorem dX0_open_11 : decode cX0_open 11 = .ok (.iconst 5, 1) := by decide +kernel
theorem dX0_open_12 : decode cX0_open 12 = .ok (.if_icmp .ne 34, 3) := by decide +kernel
theorem dX0_open_15 : decode cX0_open 15 = .ok (.aload_n 0, 1) := by decide +kernel
theorem dX0_open_16 : decode cX0_open 16 = .ok (.iconst 1, 1) := by decide +kernel
theorem dX0_open_17 : decode cX0_open 17 = .ok (.putfield 13, 3) := by decide +kernel
theorem dX0_open_20 : decode cX0_open 20 = .ok (.aload_n 0, 1) := by decide +kernel
theorem dX0_open_21 : decode cX0_open 21 = .ok (.iconst 0, 1) := by decide +kernel
theorem dX0_open_22 : decode cX0_open 22 = .ok (.putfield 20, 3) := by decide +kernel
theorem dX0_open_25 : decode cX0_open 25 = .ok (.aload_n 0, 1) := by decide +kernel
theorem dX0_open_26 : decode cX0_open 26 = .ok (.iload_n 2, 1) := by decide +kernel
theorem dX0_open_27 : decode cX0_open 27 = .ok (.iconst 5, 1) := by decide +kernel
theorem dX0_open_28 : decode cX0_open 28 = .ok (.if_icmp .ne 14, 3) := by decide +kernel
theorem dX0_open_31 : decode cX0_open 31 = .ok (.aload_n 0, 1) := by decide +kernel
theorem dX0_open_32 : decode cX0_open 32 = .ok (.invokevirtual 60, 3) := by decide +kernel
theorem dX0_open_35 : decode cX0_open 35 = .ok (.ifCond .eq 7, 3) := by decide +kernel
theorem dX0_open_38 : decode cX0_open 38 = .ok (.iconst 1, 1) := by decide +kernel
theorem dX0_open_39 : decode cX0_open 39 = .ok (.goto 4, 3) := by decide +kernel
theorem dX0_open_42 : decode cX0_open 42 = .ok (.iconst 0, 1) := by decide +kernel
theorem dX0_open_43 : decode cX0_open 43 = .ok (.putfield 23, 3) := by decide +kernel
theorem dX0_open_46 : decode cX0_open 46 = .ok (.aload_n 0, 1) := by decide +kernel
theorem dX0_open_47 : decode cX0_open 47 = .ok (.iconst 0, 1) := by decide +kernel
theorem dX0_open_48 : decode cX0_open 48 = .ok (.putfield 26, 3) := by decide +kernel
theorem dX0_open_51 : decode cX0_open 51 = .ok (.aload_n 0, 1) := by decide +kernel
theorem dX0_open_52 : decode cX0_open 52 = .ok (.bipush 7, 2) := by decide +kernel
theorem dX0_open_54 : decode cX0_open 54 = .ok (.iload_n 2, 1) := by decide +kernel
theorem dX0_open_55 : decode cX0_open 55 = .ok (.invokevirtual 64, 3) := by decide +kernel
theorem dX0_open_58 : decode cX0_open 58 = .ok (.iload_n 2, 1) := by decide +kernel
theorem dX0_open_59 : decode cX0_open 59 = .ok (.ireturn, 1) := by decide +kernel
set_option maxRecDepth 20000 in
theorem ggX0_act_X0_statusOfAct : GoodIn wsX0_act wsX0_statusOfAct := goodIn_r _ [7, 1, 8, 9, 10, 6, 11, 12, 13, 2, 14, 15, 16, 17, 18, 19, 20, 21, 22, 23, 24, 25, 26, 27, 28, 29, 30, 31, 32, 33, 34, 35, 36, 37, 38, 39, 40, 41, 42, 43, 44, 45, 46, 47, 48, 49, 50, 51, 52, 53, 72, 73, 74, 75, 76, 77, 78, 79, 80, 81, 82, 83] (by decide +kernel) (by decide +kernel)
set_option maxRecDepth 20000 in
theorem gX0_act_X0_statusOfAct : GoodIn wsX0_act (wsV RX0 68 RX0 yX0_statusOfAct wsX0_statusOfAct) := goodIn_app (goodIn_of _ (by decide +kernel)) ggX0_act_X0_statusOfAct
set_option maxRecDepth 20000 in
theorem ggX0_act_X0_move : GoodIn wsX0_act wsX0_move := goodIn_r _ [57, 14, 12, 48, 49, 6, 50, 58, 59, 60, 61, 62, 63, 72, 73, 74, 75, 76, 77, 78, 79, 80, 81, 82, 83] (by decide +kernel) (by decide +kernel)
set_option maxRecDepth 20000 in
theorem gX0_act_X0_move : GoodIn wsX0_act (wsV RX0 71 RX0 yX0_move wsX0_move) := goodIn_app (goodIn_of _ (by decide +kernel)) ggX0_act_X0_move
set_option maxRecDepth 20000 in
theorem ggX0_act_X0_isRead : GoodIn wsX0_act wsX0_isRead := goodIn_r _ [50] (by decide +kernel) (by decide +kernel)
set_option maxRecDepth 20000 in
theorem gX0_act_X0_isRead : GoodIn wsX0_act (va_wsS RX0 74 yX0_isRead wsX0_isRead) := goodIn_app (goodIn_of _ (by decide +kernel)) ggX0_act_X0_isRead
set_option maxRecDepth 20000 in
theorem ggX0_act_X0_givesPlace : GoodIn wsX0_act wsX0_givesPlace := goodIn_r _ [63] (by decide +kernel) (by decide +kernel)
set_option maxRecDepth 20000 in
theorem gX0_act_X0_givesPlace : GoodIn wsX0_act (va_wsS RX0 78 yX0_givesPlace wsX0_givesPlace) := goodIn_app (goodIn_of _ (by decide +kernel)) ggX0_act_X0_givesPlace
set_option maxRecDepth 20000 in
theorem ggX0_act_X0_remember : GoodIn wsX0_act wsX0_remember := goodIn_r _ [67, 68, 69, 70, 71, 72, 73, 74, 75, 76, 77, 78, 79, 80, 81, 82, 83] (by decide +kernel) (by decide +kernel)
set_option maxRecDepth 20000 in
theorem gX0_act_X0_remember : GoodIn wsX0_act (wsV RX0 64 RX0 yX0_remember wsX0_remember) := goodIn_app (goodIn_of _ (by decide +kernel)) ggX0_act_X0_remember
theorem dX0_act_0 : decode cX0_act 0 = .ok (.iload_n 1, 1) := by decide +kernel
theorem dX0_act_1 : decode cX0_act 1 = .ok (.ifCond .lt 9, 3) := by decide +kernel
theorem dX0_act_4 : decode cX0_act 4 = .ok (.iload_n 1, 1) := by decide +kernel
theorem dX0_act_5 : decode cX0_act 5 = .ok (.bipush 6, 2) := by decide +kernel
theorem dX0_act_7 : decode cX0_act 7 = .ok (.if_icmp .le 6, 3) := by decide +kernel
theorem dX0_act_10 : decode cX0_act 10 = .ok (.bipush (-4), 2) := by decide +kernel
theorem dX0_act_12 : decode cX0_act 12 = .ok (.ireturn, 1) := by decide +kernel
theorem dX0_act_13 : decode cX0_act 13 = .ok (.aload_n 0, 1) := by decide +kernel
theorem dX0_act_14 : decode cX0_act 14 = .ok (.iload_n 1, 1) := by decide +kernel
theorem dX0_act_15 : decode cX0_act 15 = .ok (.iload_n 2, 1) := by decide +kernel
theorem dX0_act_16 : decode cX0_act 16 = .ok (.invokevirtual 68, 3) := by decide +kernel
theorem dX0_act_19 : decode cX0_act 19 = .ok (.istore_n 3, 1) := by decide +kernel
theorem dX0_act_20 : decode cX0_act 20 = .ok (.iload_n 1, 1) := by decide +kernel
theorem dX0_act_21 : decode cX0_act 21 = .ok (.ifCond .ne 8, 3) := by decide +kernel
theorem dX0_act_24 : decode cX0_act 24 = .ok (.aload_n 0, 1) := by decide +kernel
theorem dX0_act_25 : decode cX0_act 25 = .ok (.iconst 0, 1) := by decide +kernel
theorem dX0_act_26 : decode cX0_act 26 = .ok (.putfield 23, 3) := by decide +kernel
theorem dX0_act_29 : decode cX0_act 29 = .ok (.aload_n 0, 1) := by decide +kernel
theorem dX0_act_30 : decode cX0_act 30 = .ok (.iload_n 1, 1) := by decide +kernel
theorem dX0_act_31 : decode cX0_act 31 = .ok (.iload_n 3, 1) := by decide +kernel
theorem dX0_act_32 : decode cX0_act 32 = .ok (.invokevirtual 71, 3) := by decide +kernel
theorem dX0_act_35 : decode cX0_act 35 = .ok (.aload_n 0, 1) := by decide +kernel
theorem dX0_act_36 : decode cX0_act 36 = .ok (.iload_n 1, 1) := by decide +kernel
theorem dX0_act_37 : decode cX0_act 37 = .ok (.invokestatic 74, 3) := by decide +kernel
theorem dX0_act_40 : decode cX0_act 40 = .ok (.ifCond .eq 14, 3) := by decide +kernel
theorem dX0_act_43 : decode cX0_act 43 = .ok (.iload_n 3, 1) := by decide +kernel
theorem dX0_act_44 : decode cX0_act 44 = .ok (.invokestatic 78, 3) := by decide +kernel
theorem dX0_act_47 : decode cX0_act 47 = .ok (.ifCond .eq 7, 3) := by decide +kernel
theorem dX0_act_50 : decode cX0_act 50 = .ok (.iconst 1, 1) := by decide +kernel
theorem dX0_act_51 : decode cX0_act 51 = .ok (.goto 4, 3) := by decide +kernel
theorem dX0_act_54 : decode cX0_act 54 = .ok (.iconst 0, 1) := by decide +kernel
theorem dX0_act_55 : decode cX0_act 55 = .ok (.putfield 26, 3) := by decide +kernel
theorem dX0_act_58 : decode cX0_act 58 = .ok (.aload_n 0, 1) := by decide +kernel
theorem dX0_act_59 : decode cX0_act 59 = .ok (.iload_n 1, 1) := by decide +kernel
theorem dX0_act_60 : decode cX0_act 60 = .ok (.iload_n 3, 1) := by decide +kernel
theorem dX0_act_61 : decode cX0_act 61 = .ok (.invokevirtual 64, 3) := by decide +kernel
theorem dX0_act_64 : decode cX0_act 64 = .ok (.iload_n 3, 1) := by decide +kernel
theorem dX0_act_65 : decode cX0_act 65 = .ok (.ireturn, 1) := by decide +kernel
set_option maxRecDepth 20000 in
theorem ggX0_exception_X0_isStatus : GoodIn wsX0_exception wsX0_isStatus := goodIn_r _ [4] (by decide +kernel) (by decide +kernel)
set_option maxRecDepth 20000 in
theorem gX0_exception_X0_isStatus : GoodIn wsX0_exception (va_wsS RX0 81 yX0_isStatus wsX0_isStatus) := goodIn_app (goodIn_of _ (by decide +kernel)) ggX0_exception_X0_isStatus
theorem dX0_exception_0 : decode cX0_exception 0 = .ok (.iload_n 1, 1) := by decide +kernel
theorem dX0_exception_1 : decode cX0_exception 1 = .ok (.invokestatic 81, 3) := by decide +kernel
theorem dX0_exception_4 : decode cX0_exception 4 = .ok (.ifCond .ne 5, 3) := by decide +kernel
theorem dX0_exception_7 : decode cX0_exception 7 = .ok (.iconst (-1), 1) := by decide +kernel
theorem dX0_exception_8 : decode cX0_exception 8 = .ok (.ireturn, 1) := by decide +kernel
theorem dX0_exception_9 : decode cX0_exception 9 = .ok (.iload_n 1, 1) := by decide +kernel
theorem dX0_exception_10 : decode cX0_exception 10 = .ok (.bipush 10, 2) := by decide +kernel
theorem dX0_exception_12 : decode cX0_exception 12 = .ok (.idiv, 1) := by decide +kernel
theorem dX0_exception_13 : decode cX0_exception 13 = .ok (.istore_n 2, 1) := by decide +kernel
theorem dX0_exception_14 : decode cX0_exception 14 = .ok (.iload_n 2, 1) := by decide +kernel
theorem dX0_exception_15 : decode cX0_exception 15 = .ok (.iconst 5, 1) := by decide +kernel
theorem dX0_exception_16 : decode cX0_exception 16 = .ok (.if_icmp .gt 5, 3) := by decide +kernel
theorem dX0_exception_19 : decode cX0_exception 19 = .ok (.iload_n 2, 1) := by decide +kernel
theorem dX0_exception_20 : decode cX0_exception 20 = .ok (.ireturn, 1) := by decide +kernel
theorem dX0_exception_21 : decode cX0_exception 21 = .ok (.iload_n 2, 1) := by decide +kernel
theorem dX0_exception_22 : decode cX0_exception 22 = .ok (.bipush 6, 2) := by decide +kernel
theorem dX0_exception_24 : decode cX0_exception 24 = .ok (.if_icmp .ne 7, 3) := by decide +kernel
theorem dX0_exception_27 : decode cX0_exception 27 = .ok (.iconst 5, 1) := by decide +kernel
theorem dX0_exception_28 : decode cX0_exception 28 = .ok (.goto 5, 3) := by decide +kernel
theorem dX0_exception_31 : decode cX0_exception 31 = .ok (.bipush 6, 2) := by decide +kernel
theorem dX0_exception_33 : decode cX0_exception 33 = .ok (.ireturn, 1) := by decide +kernel
set_option maxRecDepth 20000 in
theorem ggX0_phrase_X0_exception : GoodIn wsX0_phrase wsX0_exception := goodIn_r _ [6, 7, 8, 5, 9] (by decide +kernel) (by decide +kernel)
set_option maxRecDepth 20000 in
theorem gX0_phrase_X0_exception : GoodIn wsX0_phrase (wsV RX0 84 RX0 yX0_exception wsX0_exception) := goodIn_app (goodIn_of _ (by decide +kernel)) ggX0_phrase_X0_exception
set_option maxRecDepth 20000 in
theorem ggX0_phrase_X0_hasDeclarative : GoodIn wsX0_phrase wsX0_hasDeclarative := goodIn_r _ [13, 14, 15, 16, 17, 18, 19, 20, 21, 22, 23, 24, 25, 26] (by decide +kernel) (by decide +kernel)
set_option maxRecDepth 20000 in
theorem gX0_phrase_X0_hasDeclarative : GoodIn wsX0_phrase (wsV RX0 87 RX0 yX0_hasDeclarative wsX0_hasDeclarative) := goodIn_app (goodIn_of _ (by decide +kernel)) ggX0_phrase_X0_hasDeclarative
theorem dX0_phrase_0 : decode cX0_phrase 0 = .ok (.aload_n 0, 1) := by decide +kernel
theorem dX0_phrase_1 : decode cX0_phrase 1 = .ok (.aload_n 0, 1) := by decide +kernel
theorem dX0_phrase_2 : decode cX0_phrase 2 = .ok (.getfield 29, 3) := by decide +kernel
theorem dX0_phrase_5 : decode cX0_phrase 5 = .ok (.invokevirtual 84, 3) := by decide +kernel
theorem dX0_phrase_8 : decode cX0_phrase 8 = .ok (.istore_n 2, 1) := by decide +kernel
theorem dX0_phrase_9 : decode cX0_phrase 9 = .ok (.iload_n 2, 1) := by decide +kernel
theorem dX0_phrase_10 : decode cX0_phrase 10 = .ok (.ifCond .ne 5, 3) := by decide +kernel
theorem dX0_phrase_13 : decode cX0_phrase 13 = .ok (.iconst 0, 1) := by decide +kernel
theorem dX0_phrase_14 : decode cX0_phrase 14 = .ok (.ireturn, 1) := by decide +kernel
theorem dX0_phrase_15 : decode cX0_phrase 15 = .ok (.iload_n 2, 1) := by decide +kernel
theorem dX0_phrase_16 : decode cX0_phrase 16 = .ok (.iconst 1, 1) := by decide +kernel
theorem dX0_phrase_17 : decode cX0_phrase 17 = .ok (.if_icmp .eq 8, 3) := by decide +kernel
theorem dX0_phrase_20 : decode cX0_phrase 20 = .ok (.iload_n 2, 1) := by decide +kernel
theorem dX0_phrase_21 : decode cX0_phrase 21 = .ok (.iconst 2, 1) := by decide +kernel
theorem dX0_phrase_22 : decode cX0_phrase 22 = .ok (.if_icmp .ne 7, 3) := by decide +kernel
theorem dX0_phrase_25 : decode cX0_phrase 25 = .ok (.iconst 1, 1) := by decide +kernel
theorem dX0_phrase_26 : decode cX0_phrase 26 = .ok (.goto 4, 3) := by decide +kernel
theorem dX0_phrase_29 : decode cX0_phrase 29 = .ok (.iconst 0, 1) := by decide +kernel
theorem dX0_phrase_30 : decode cX0_phrase 30 = .ok (.istore_n 3, 1) := by decide +kernel
theorem dX0_phrase_31 : decode cX0_phrase 31 = .ok (.iload_n 3, 1) := by decide +kernel
theorem dX0_phrase_32 : decode cX0_phrase 32 = .ok (.ifCond .eq 9, 3) := by decide +kernel
theorem dX0_phrase_35 : decode cX0_phrase 35 = .ok (.iload_n 1, 1) := by decide +kernel
theorem dX0_phrase_36 : decode cX0_phrase 36 = .ok (.ifCond .eq 5, 3) := by decide +kernel
theorem dX0_phrase_39 : decode cX0_phrase 39 = .ok (.iconst 1, 1) := by decide +kernel
theorem dX0_phrase_40 : decode cX0_phrase 40 = .ok (.ireturn, 1) := by decide +kernel
theorem dX0_phrase_41 : decode cX0_phrase 41 = .ok (.aload_n 0, 1) := by decide +kernel
theorem dX0_phrase_42 : decode cX0_phrase 42 = .ok (.iload_n 2, 1) := by decide +kernel
theorem dX0_phrase_43 : decode cX0_phrase 43 = .ok (.invokevirtual 87, 3) := by decide +kernel
theorem dX0_phrase_46 : decode cX0_phrase 46 = .ok (.ifCond .eq 5, 3) := by decide +kernel
theorem dX0_phrase_49 : decode cX0_phrase 49 = .ok (.iconst 2, 1) := by decide +kernel
theorem dX0_phrase_50 : decode cX0_phrase 50 = .ok (.ireturn, 1) := by decide +kernel
theorem dX0_phrase_51 : decode cX0_phrase 51 = .ok (.iload_n 3, 1) := by decide +kernel
theorem dX0_phrase_52 : decode cX0_phrase 52 = .ok (.ifCond .eq 7, 3) := by decide +kernel
theorem dX0_phrase_55 : decode cX0_phrase 55 = .ok (.iconst 4, 1) := by decide +kernel
theorem dX0_phrase_56 : decode cX0_phrase 56 = .ok (.goto 4, 3) := by decide +kernel
theorem dX0_phrase_59 : decode cX0_phrase 59 = .ok (.iconst 3, 1) := by decide +kernel
theorem dX0_phrase_60 : decode cX0_phrase 60 = .ok (.ireturn, 1) := by decide +kernel
set_option maxRecDepth 20000 in
theorem ggX0_declarative_X0_hasDeclarative : GoodIn wsX0_declarative wsX0_hasDeclarative := goodIn_r _ [6, 1, 7, 8, 9, 10, 11, 12, 13, 14, 15, 16, 17, 18] (by decide +kernel) (by decide +kernel)
set_option maxRecDepth 20000 in
theorem gX0_declarative_X0_hasDeclarative : GoodIn wsX0_declarative (wsV RX0 87 RX0 yX0_hasDeclarative wsX0_hasDeclarative) := goodIn_app (goodIn_of _ (by decide +kernel)) ggX0_declarative_X0_hasDeclarative
theorem dX0_declarative_0 : decode cX0_declarative 0 = .ok (.iload_n 1, 1) := by decide +kernel
theorem dX0_declarative_1 : decode cX0_declarative 1 = .ok (.iconst 1, 1) := by decide +kernel
theorem dX0_declarative_2 : decode cX0_declarative 2 = .ok (.if_icmp .lt 9, 3) := by decide +kernel
theorem dX0_declarative_5 : decode cX0_declarative 5 = .ok (.iload_n 1, 1) := by decide +kernel
theorem dX0_declarative_6 : decode cX0_declarative 6 = .ok (.bipush 6, 2) := by decide +kernel
theorem dX0_declarative_8 : decode cX0_declarative 8 = .ok (.if_icmp .le 6, 3) := by decide +kernel
theorem dX0_declarative_11 : decode cX0_declarative 11 = .ok (.bipush (-4), 2) := by decide +kernel
theorem dX0_declarative_13 : decode cX0_declarative 13 = .ok (.ireturn, 1) := by decide +kernel
theorem dX0_declarative_14 : decode cX0_declarative 14 = .ok (.aload_n 0, 1) := by decide +kernel
theorem dX0_declarative_15 : decode cX0_declarative 15 = .ok (.iload_n 1, 1) := by decide +kernel
theorem dX0_declarative_16 : decode cX0_declarative 16 = .ok (.invokevirtual 87, 3) := by decide +kernel
theorem dX0_declarative_19 : decode cX0_declarative 19 = .ok (.ifCond .eq 7, 3) := by decide +kernel
theorem dX0_declarative_22 : decode cX0_declarative 22 = .ok (.iconst 1, 1) := by decide +kernel
theorem dX0_declarative_23 : decode cX0_declarative 23 = .ok (.goto 4, 3) := by decide +kernel
theorem dX0_declarative_26 : decode cX0_declarative 26 = .ok (.iconst 0, 1) := by decide +kernel
theorem dX0_declarative_27 : decode cX0_declarative 27 = .ok (.istore_n 3, 1) := by decide +kernel
theorem dX0_declarative_28 : decode cX0_declarative 28 = .ok (.iconst 1, 1) := by decide +kernel
theorem dX0_declarative_29 : decode cX0_declarative 29 = .ok (.iload_n 1, 1) := by decide +kernel
theorem dX0_declarative_30 : decode cX0_declarative 30 = .ok (.ishl, 1) := by decide +kernel
theorem dX0_declarative_31 : decode cX0_declarative 31 = .ok (.istore 4, 2) := by decide +kernel
theorem dX0_declarative_33 : decode cX0_declarative 33 = .ok (.aload_n 0, 1) := by decide +kernel
theorem dX0_declarative_34 : decode cX0_declarative 34 = .ok (.iload_n 2, 1) := by decide +kernel
theorem dX0_declarative_35 : decode cX0_declarative 35 = .ok (.ifCond .eq 13, 3) := by decide +kernel
theorem dX0_declarative_38 : decode cX0_declarative 38 = .ok (.aload_n 0, 1) := by decide +kernel
theorem dX0_declarative_39 : decode cX0_declarative 39 = .ok (.getfield 35, 3) := by decide +kernel
theorem dX0_declarative_42 : decode cX0_declarative 42 = .ok (.iload 4, 2) := by decide +kernel
theorem dX0_declarative_44 : decode cX0_declarative 44 = .ok (.ior, 1) := by decide +kernel
theorem dX0_declarative_45 : decode cX0_declarative 45 = .ok (.goto 12, 3) := by decide +kernel
theorem dX0_declarative_48 : decode cX0_declarative 48 = .ok (.aload_n 0, 1) := by decide +kernel
theorem dX0_declarative_49 : decode cX0_declarative 49 = .ok (.getfield 35, 3) := by decide +kernel
theorem dX0_declarative_52 : decode cX0_declarative 52 = .ok (.iload 4, 2) := by decide +kernel
theorem dX0_declarative_54 : decode cX0_declarative 54 = .ok (.iconst (-1), 1) := by decide +kernel
theorem dX0_declarative_55 : decode cX0_declarative 55 = .ok (.ixor, 1) := by decide +kernel
theorem dX0_declarative_56 : decode cX0_declarative 56 = .ok (.iand, 1) := by decide +kernel
theorem dX0_declarative_57 : decode cX0_declarative 57 = .ok (.putfield 35, 3) := by decide +kernel
theorem dX0_declarative_60 : decode cX0_declarative 60 = .ok (.iload_n 3, 1) := by decide +kernel
theorem dX0_declarative_61 : decode cX0_declarative 61 = .ok (.ireturn, 1) := by decide +kernel
set_option maxRecDepth 20000 in
theorem ggX0_position_X0_isStatus : GoodIn wsX0_position wsX0_isStatus := goodIn_r _ [4] (by decide +kernel) (by decide +kernel)
set_option maxRecDepth 20000 in
theorem gX0_position_X0_isStatus : GoodIn wsX0_position (va_wsS RX0 81 yX0_isStatus wsX0_isStatus) := goodIn_app (goodIn_of _ (by decide +kernel)) ggX0_position_X0_isStatus
set_option maxRecDepth 20000 in
theorem ggX0_position_X0_placeAfter : GoodIn wsX0_position wsX0_placeAfter := goodIn_r _ [7, 8, 9, 3, 10] (by decide +kernel) (by decide +kernel)
set_option maxRecDepth 20000 in
theorem gX0_position_X0_placeAfter : GoodIn wsX0_position (va_wsS RX0 90 yX0_placeAfter wsX0_placeAfter) := goodIn_app (goodIn_of _ (by decide +kernel)) ggX0_position_X0_placeAfter
theorem dX0_position_0 : decode cX0_position 0 = .ok (.iload_n 1, 1) := by decide +kernel
theorem dX0_position_1 : decode cX0_position 1 = .ok (.invokestatic 81, 3) := by decide +kernel
theorem dX0_position_4 : decode cX0_position 4 = .ok (.ifCond .ne 5, 3) := by decide +kernel
theorem dX0_position_7 : decode cX0_position 7 = .ok (.iconst (-1), 1) := by decide +kernel
theorem dX0_position_8 : decode cX0_position 8 = .ok (.ireturn, 1) := by decide +kernel
theorem dX0_position_9 : decode cX0_position 9 = .ok (.iload_n 1, 1) := by decide +kernel
theorem dX0_position_10 : decode cX0_position 10 = .ok (.iconst 0, 1) := by decide +kernel
theorem dX0_position_11 : decode cX0_position 11 = .ok (.invokestatic 90, 3) := by decide +kernel
theorem dX0_position_14 : decode cX0_position 14 = .ok (.ireturn, 1) := by decide +kernel
theorem dX0_optional_0 : decode cX0_optional 0 = .ok (.aload_n 0, 1) := by decide +kernel
theorem dX0_optional_1 : decode cX0_optional 1 = .ok (.getfield 13, 3) := by decide +kernel
theorem dX0_optional_4 : decode cX0_optional 4 = .ok (.ifCond .eq 6, 3) := by decide +kernel
theorem dX0_optional_7 : decode cX0_optional 7 = .ok (.bipush (-5), 2) := by decide +kernel
theorem dX0_optional_9 : decode cX0_optional 9 = .ok (.ireturn, 1) := by decide +kernel
theorem dX0_optional_10 : decode cX0_optional 10 = .ok (.aload_n 0, 1) := by decide +kernel
theorem dX0_optional_11 : decode cX0_optional 11 = .ok (.getfield 17, 3) := by decide +kernel
theorem dX0_optional_14 : decode cX0_optional 14 = .ok (.ifCond .eq 7, 3) := by decide +kernel
theorem dX0_optional_17 : decode cX0_optional 17 = .ok (.iconst 1, 1) := by decide +kernel
theorem dX0_optional_18 : decode cX0_optional 18 = .ok (.goto 4, 3) := by decide +kernel
theorem dX0_optional_21 : decode cX0_optional 21 = .ok (.iconst 0, 1) := by decide +kernel
theorem dX0_optional_22 : decode cX0_optional 22 = .ok (.istore_n 2, 1) := by decide +kernel
theorem dX0_optional_23 : decode cX0_optional 23 = .ok (.aload_n 0, 1) := by decide +kernel
theorem dX0_optional_24 : decode cX0_optional 24 = .ok (.iload_n 1, 1) := by decide +kernel
theorem dX0_optional_25 : decode cX0_optional 25 = .ok (.putfield 17, 3) := by decide +kernel
theorem dX0_optional_28 : decode cX0_optional 28 = .ok (.iload_n 2, 1) := by decide +kernel
theorem dX0_optional_29 : decode cX0_optional 29 = .ok (.ireturn, 1) := by decide +kernel
set_option maxRecDepth 20000 in
theorem ggX0_both_X0_isStatus : GoodIn wsX0_both wsX0_isStatus := goodIn_r _ [8] (by decide +kernel) (by decide +kernel)
set_option maxRecDepth 20000 in
theorem gX0_both_X0_isStatus : GoodIn wsX0_both (va_wsS RX0 81 yX0_isStatus wsX0_isStatus) := goodIn_app (goodIn_of _ (by decide +kernel)) ggX0_both_X0_isStatus
set_option maxRecDepth 20000 in
theorem ggX0_both_X0_exception : GoodIn wsX0_both wsX0_exception := goodIn_r _ [12, 5, 6, 7, 8] (by decide +kernel) (by decide +kernel)
set_option maxRecDepth 20000 in
theorem gX0_both_X0_exception : GoodIn wsX0_both (wsV RX0 84 RX0 yX0_exception wsX0_exception) := goodIn_app (goodIn_of _ (by decide +kernel)) ggX0_both_X0_exception
theorem dX0_both_0 : decode cX0_both 0 = .ok (.iload_n 1, 1) := by decide +kernel
theorem dX0_both_1 : decode cX0_both 1 = .ok (.invokestatic 81, 3) := by decide +kernel
theorem dX0_both_4 : decode cX0_both 4 = .ok (.ifCond .eq 10, 3) := by decide +kernel
theorem dX0_both_7 : decode cX0_both 7 = .ok (.iload_n 2, 1) := by decide +kernel
theorem dX0_both_8 : decode cX0_both 8 = .ok (.invokestatic 81, 3) := by decide +kernel
theorem dX0_both_11 : decode cX0_both 11 = .ok (.ifCond .ne 5, 3) := by decide +kernel
theorem dX0_both_14 : decode cX0_both 14 = .ok (.iconst (-1), 1) := by decide +kernel
theorem dX0_both_15 : decode cX0_both 15 = .ok (.ireturn, 1) := by decide +kernel
theorem dX0_both_16 : decode cX0_both 16 = .ok (.aload_n 0, 1) := by decide +kernel
theorem dX0_both_17 : decode cX0_both 17 = .ok (.iload_n 1, 1) := by decide +kernel
theorem dX0_both_18 : decode cX0_both 18 = .ok (.invokevirtual 84, 3) := by decide +kernel
theorem dX0_both_21 : decode cX0_both 21 = .ok (.istore_n 3, 1) := by decide +kernel
theorem dX0_both_22 : decode cX0_both 22 = .ok (.aload_n 0, 1) := by decide +kernel
theorem dX0_both_23 : decode cX0_both 23 = .ok (.iload_n 2, 1) := by decide +kernel
theorem dX0_both_24 : decode cX0_both 24 = .ok (.invokevirtual 84, 3) := by decide +kernel
theorem dX0_both_27 : decode cX0_both 27 = .ok (.istore 4, 2) := by decide +kernel
theorem dX0_both_29 : decode cX0_both 29 = .ok (.iload_n 3, 1) := by decide +kernel
theorem dX0_both_30 : decode cX0_both 30 = .ok (.iload 4, 2) := by decide +kernel
theorem dX0_both_32 : decode cX0_both 32 = .ok (.if_icmp .ne 9, 3) := by decide +kernel
theorem dX0_both_35 : decode cX0_both 35 = .ok (.iload_n 1, 1) := by decide +kernel
theorem dX0_both_36 : decode cX0_both 36 = .ok (.iload_n 2, 1) := by decide +kernel
theorem dX0_both_37 : decode cX0_both 37 = .ok (.invokestatic 44, 3) := by decide +kernel
theorem dX0_both_40 : decode cX0_both 40 = .ok (.ireturn, 1) := by decide +kernel
theorem dX0_both_41 : decode cX0_both 41 = .ok (.iload_n 3, 1) := by decide +kernel
theorem dX0_both_42 : decode cX0_both 42 = .ok (.iload 4, 2) := by decide +kernel
theorem dX0_both_44 : decode cX0_both 44 = .ok (.if_icmp .le 7, 3) := by decide +kernel
theorem dX0_both_47 : decode cX0_both 47 = .ok (.iload_n 1, 1) := by decide +kernel
theorem dX0_both_48 : decode cX0_both 48 = .ok (.goto 4, 3) := by decide +kernel
theorem dX0_both_51 : decode cX0_both 51 = .ok (.iload_n 2, 1) := by decide +kernel
theorem dX0_both_52 : decode cX0_both 52 = .ok (.ireturn, 1) := by decide +kernel
set_option maxRecDepth 20000 in
theorem ggX0_extended_X0_isStatus : GoodIn wsX0_extended wsX0_isStatus := goodIn_r _ [6] (by decide +kernel) (by decide +kernel)
set_option maxRecDepth 20000 in
theorem gX0_extended_X0_isStatus : GoodIn wsX0_extended (va_wsS RX0 81 yX0_isStatus wsX0_isStatus) := goodIn_app (goodIn_of _ (by decide +kernel)) ggX0_extended_X0_isStatus
theorem dX0_extended_0 : decode cX0_extended 0 = .ok (.iload_n 1, 1) := by decide +kernel
theorem dX0_extended_1 : decode cX0_extended 1 = .ok (.invokestatic 81, 3) := by decide +kernel
theorem dX0_extended_4 : decode cX0_extended 4 = .ok (.ifCond .ne 5, 3) := by decide +kernel
theorem dX0_extended_7 : decode cX0_extended 7 = .ok (.iconst (-1), 1) := by decide +kernel
theorem dX0_extended_8 : decode cX0_extended 8 = .ok (.ireturn, 1) := by decide +kernel
theorem dX0_extended_9 : decode cX0_extended 9 = .ok (.bipush 100, 2) := by decide +kernel
theorem dX0_extended_11 : decode cX0_extended 11 = .ok (.iload_n 1, 1) := by decide +kernel
theorem dX0_extended_12 : decode cX0_extended 12 = .ok (.imul, 1) := by decide +kernel
theorem dX0_extended_13 : decode cX0_extended 13 = .ok (.bipush 10, 2) := by decide +kernel
theorem dX0_extended_15 : decode cX0_extended 15 = .ok (.aload_n 0, 1) := by decide +kernel
theorem dX0_extended_16 : decode cX0_extended 16 = .ok (.getfield 53, 3) := by decide +kernel
theorem dX0_extended_19 : decode cX0_extended 19 = .ok (.imul, 1) := by decide +kernel
theorem dX0_extended_20 : decode cX0_extended 20 = .ok (.iadd, 1) := by decide +kernel
theorem dX0_extended_21 : decode cX0_extended 21 = .ok (.aload_n 0, 1) := by decide +kernel
theorem dX0_extended_22 : decode cX0_extended 22 = .ok (.getfield 32, 3) := by decide +kernel
theorem dX0_extended_25 : decode cX0_extended 25 = .ok (.iadd, 1) := by decide +kernel
theorem dX0_extended_26 : decode cX0_extended 26 = .ok (.ireturn, 1) := by decide +kernel
set_option maxRecDepth 20000 in
theorem ggX0_area_X0_isStatus : GoodIn wsX0_area wsX0_isStatus := goodIn_r _ [4] (by decide +kernel) (by decide +kernel)
set_option maxRecDepth 20000 in
theorem gX0_area_X0_isStatus : GoodIn wsX0_area (va_wsS RX0 81 yX0_isStatus wsX0_isStatus) := goodIn_app (goodIn_of _ (by decide +kernel)) ggX0_area_X0_isStatus
theorem dX0_area_0 : decode cX0_area 0 = .ok (.iload_n 1, 1) := by decide +kernel
theorem dX0_area_1 : decode cX0_area 1 = .ok (.invokestatic 81, 3) := by decide +kernel
theorem dX0_area_4 : decode cX0_area 4 = .ok (.ifCond .ne 5, 3) := by decide +kernel
theorem dX0_area_7 : decode cX0_area 7 = .ok (.iconst (-1), 1) := by decide +kernel
theorem dX0_area_8 : decode cX0_area 8 = .ok (.ireturn, 1) := by decide +kernel
theorem dX0_area_9 : decode cX0_area 9 = .ok (.iload_n 1, 1) := by decide +kernel
theorem dX0_area_10 : decode cX0_area 10 = .ok (.ifCond .eq 8, 3) := by decide +kernel
theorem dX0_area_13 : decode cX0_area 13 = .ok (.iload_n 1, 1) := by decide +kernel
theorem dX0_area_14 : decode cX0_area 14 = .ok (.iconst 2, 1) := by decide +kernel
theorem dX0_area_15 : decode cX0_area 15 = .ok (.if_icmp .ne 5, 3) := by decide +kernel
theorem dX0_area_18 : decode cX0_area 18 = .ok (.iconst 1, 1) := by decide +kernel
theorem dX0_area_19 : decode cX0_area 19 = .ok (.ireturn, 1) := by decide +kernel
theorem dX0_area_20 : decode cX0_area 20 = .ok (.iload_n 1, 1) := by decide +kernel
theorem dX0_area_21 : decode cX0_area 21 = .ok (.iconst 4, 1) := by decide +kernel
theorem dX0_area_22 : decode cX0_area 22 = .ok (.if_icmp .ne 7, 3) := by decide +kernel
theorem dX0_area_25 : decode cX0_area 25 = .ok (.iconst 2, 1) := by decide +kernel
theorem dX0_area_26 : decode cX0_area 26 = .ok (.goto 4, 3) := by decide +kernel
theorem dX0_area_29 : decode cX0_area 29 = .ok (.iconst 0, 1) := by decide +kernel
theorem dX0_area_30 : decode cX0_area 30 = .ok (.ireturn, 1) := by decide +kernel
theorem dX0_count_0 : decode cX0_count 0 = .ok (.iload_n 1, 1) := by decide +kernel
theorem dX0_count_1 : decode cX0_count 1 = .ok (.tableswitch 97 0 6 #[43, 59, 64, 77, 82, 87, 92], 43) := by decide +kernel
theorem dX0_count_44 : decode cX0_count 44 = .ok (.aload_n 0, 1) := by decide +kernel
theorem dX0_count_45 : decode cX0_count 45 = .ok (.getfield 13, 3) := by decide +kernel
theorem dX0_count_48 : decode cX0_count 48 = .ok (.ifCond .eq 10, 3) := by decide +kernel
theorem dX0_count_51 : decode cX0_count 51 = .ok (.aload_n 0, 1) := by decide +kernel
theorem dX0_count_52 : decode cX0_count 52 = .ok (.getfield 9, 3) := by decide +kernel
theorem dX0_count_55 : decode cX0_count 55 = .ok (.goto 4, 3) := by decide +kernel
theorem dX0_count_58 : decode cX0_count 58 = .ok (.iconst (-1), 1) := by decide +kernel
theorem dX0_count_59 : decode cX0_count 59 = .ok (.ireturn, 1) := by decide +kernel
theorem dX0_count_60 : decode cX0_count 60 = .ok (.aload_n 0, 1) := by decide +kernel
theorem dX0_count_61 : decode cX0_count 61 = .ok (.getfield 20, 3) := by decide +kernel
theorem dX0_count_64 : decode cX0_count 64 = .ok (.ireturn, 1) := by decide +kernel
theorem dX0_count_65 : decode cX0_count 65 = .ok (.aload_n 0, 1) := by decide +kernel
theorem dX0_count_66 : decode cX0_count 66 = .ok (.getfield 26, 3) := by decide +kernel
theorem dX0_count_69 : decode cX0_count 69 = .ok (.ifCond .eq 7, 3) := by decide +kernel
theorem dX0_count_72 : decode cX0_count 72 = .ok (.iconst 1, 1) := by decide +kernel
theorem dX0_count_73 : decode cX0_count 73 = .ok (.goto 4, 3) := by decide +kernel
theorem dX0_count_76 : decode cX0_count 76 = .ok (.iconst 0, 1) := by decide +kernel
theorem dX0_count_77 : decode cX0_count 77 = .ok (.ireturn, 1) := by decide +kernel
theorem dX0_count_78 : decode cX0_count 78 = .ok (.aload_n 0, 1) := by decide +kernel
theorem dX0_count_79 : decode cX0_count 79 = .ok (.getfield 29, 3) := by decide +kernel
theorem dX0_count_82 : decode cX0_count 82 = .ok (.ireturn, 1) := by decide +kernel
theorem dX0_count_83 : decode cX0_count 83 = .ok (.aload_n 0, 1) := by decide +kernel
theorem dX0_count_84 : decode cX0_count 84 = .ok (.getfield 38, 3) := by decide +kernel
theorem dX0_count_87 : decode cX0_count 87 = .ok (.ireturn, 1) := by decide +kernel
theorem dX0_count_88 : decode cX0_count 88 = .ok (.aload_n 0, 1) := by decide +kernel
theorem dX0_count_89 : decode cX0_count 89 = .ok (.getfield 41, 3) := by decide +kernel
theorem dX0_count_92 : decode cX0_count 92 = .ok (.ireturn, 1) := by decide +kernel
theorem dX0_count_93 : decode cX0_count 93 = .ok (.aload_n 0, 1) := by decide +kernel
theorem dX0_count_94 : decode cX0_count 94 = .ok (.getfield 53, 3) := by decide +kernel
theorem dX0_count_97 : decode cX0_count 97 = .ok (.ireturn, 1) := by decide +kernel
theorem dX0_count_98 : decode cX0_count 98 = .ok (.iconst (-1), 1) := by decide +kernel
theorem dX0_count_99 : decode cX0_count 99 = .ok (.ireturn, 1) := by decide +kernel
set_option maxRecDepth 20000 in
theorem ggX0_statusOfOpening_X0_statusOfMissingFile : GoodIn wsX0_statusOfOpening wsX0_statusOfMissingFile := goodIn_r _ [6, 7, 8, 9, 10, 11, 12, 13, 14, 15, 16, 17, 18, 19, 20] (by decide +kernel) (by decide +kernel)
set_option maxRecDepth 20000 in
theorem gX0_statusOfOpening_X0_statusOfMissingFile : GoodIn wsX0_statusOfOpening (wsV RX0 93 RX0 yX0_statusOfMissingFile wsX0_statusOfMissingFile) := goodIn_app (goodIn_of _ (by decide +kernel)) ggX0_statusOfOpening_X0_statusOfMissingFile
theorem dX0_statusOfOpening_0 : decode cX0_statusOfOpening 0 = .ok (.aload_n 0, 1) := by decide +kernel
theorem dX0_statusOfOpening_1 : decode cX0_statusOfOpening 1 = .ok (.getfield 13, 3) := by decide +kernel
theorem dX0_statusOfOpening_4 : decode cX0_statusOfOpening 4 = .ok (.ifCond .eq 6, 3) := by decide +kernel
theorem dX0_statusOfOpening_7 : decode cX0_statusOfOpening 7 = .ok (.bipush 41, 2) := by decide +kernel
theorem dX0_statusOfOpening_9 : decode cX0_statusOfOpening 9 = .ok (.ireturn, 1) := by decide +kernel
theorem dX0_statusOfOpening_10 : decode cX0_statusOfOpening 10 = .ok (.iload_n 1, 1) := by decide +kernel
theorem dX0_statusOfOpening_11 : decode cX0_statusOfOpening 11 = .ok (.tableswitch 63 0 6 #[41, 43, 48, 51, 54, 57, 60], 41) := by decide +kernel
theorem dX0_statusOfOpening_52 : decode cX0_statusOfOpening 52 = .ok (.iconst 0, 1) := by decide +kernel
theorem dX0_statusOfOpening_53 : decode cX0_statusOfOpening 53 = .ok (.ireturn, 1) := by decide +kernel
theorem dX0_statusOfOpening_54 : decode cX0_statusOfOpening 54 = .ok (.aload_n 0, 1) := by decide +kernel
theorem dX0_statusOfOpening_55 : decode cX0_statusOfOpening 55 = .ok (.invokevirtual 93, 3) := by decide +kernel
theorem dX0_statusOfOpening_58 : decode cX0_statusOfOpening 58 = .ok (.ireturn, 1) := by decide +kernel
theorem dX0_statusOfOpening_59 : decode cX0_statusOfOpening 59 = .ok (.bipush 37, 2) := by decide +kernel
theorem dX0_statusOfOpening_61 : decode cX0_statusOfOpening 61 = .ok (.ireturn, 1) := by decide +kernel
theorem dX0_statusOfOpening_62 : decode cX0_statusOfOpening 62 = .ok (.bipush 39, 2) := by decide +kernel
theorem dX0_statusOfOpening_64 : decode cX0_statusOfOpening 64 = .ok (.ireturn, 1) := by decide +kernel
theorem dX0_statusOfOpening_65 : decode cX0_statusOfOpening 65 = .ok (.bipush 38, 2) := by decide +kernel
theorem dX0_statusOfOpening_67 : decode cX0_statusOfOpening 67 = .ok (.ireturn, 1) := by decide +kernel
theorem dX0_statusOfOpening_68 : decode cX0_statusOfOpening 68 = .ok (.bipush 30, 2) := by decide +kernel
theorem dX0_statusOfOpening_70 : decode cX0_statusOfOpening 70 = .ok (.ireturn, 1) := by decide +kernel
theorem dX0_statusOfOpening_71 : decode cX0_statusOfOpening 71 = .ok (.bipush 61, 2) := by decide +kernel
theorem dX0_statusOfOpening_73 : decode cX0_statusOfOpening 73 = .ok (.ireturn, 1) := by decide +kernel
theorem dX0_statusOfOpening_74 : decode cX0_statusOfOpening 74 = .ok (.bipush 90, 2) := by decide +kernel
theorem dX0_statusOfOpening_76 : decode cX0_statusOfOpening 76 = .ok (.ireturn, 1) := by decide +kernel
theorem dX0_statusOfMissingFile_0 : decode cX0_statusOfMissingFile 0 = .ok (.aload_n 0, 1) := by decide +kernel
theorem dX0_statusOfMissingFile_1 : decode cX0_statusOfMissingFile 1 = .ok (.getfield 9, 3) := by decide +kernel
theorem dX0_statusOfMissingFile_4 : decode cX0_statusOfMissingFile 4 = .ok (.iconst 1, 1) := by decide +kernel
theorem dX0_statusOfMissingFile_5 : decode cX0_statusOfMissingFile 5 = .ok (.if_icmp .ne 5, 3) := by decide +kernel
theorem dX0_statusOfMissingFile_8 : decode cX0_statusOfMissingFile 8 = .ok (.iconst 0, 1) := by decide +kernel
theorem dX0_statusOfMissingFile_9 : decode cX0_statusOfMissingFile 9 = .ok (.ireturn, 1) := by decide +kernel
theorem dX0_statusOfMissingFile_10 : decode cX0_statusOfMissingFile 10 = .ok (.aload_n 0, 1) := by decide +kernel
theorem dX0_statusOfMissingFile_11 : decode cX0_statusOfMissingFile 11 = .ok (.getfield 17, 3) := by decide +kernel
theorem dX0_statusOfMissingFile_14 : decode cX0_statusOfMissingFile 14 = .ok (.ifCond .eq 7, 3) := by decide +kernel
theorem dX0_statusOfMissingFile_17 : decode cX0_statusOfMissingFile 17 = .ok (.iconst 5, 1) := by decide +kernel
theorem dX0_statusOfMissingFile_18 : decode cX0_statusOfMissingFile 18 = .ok (.goto 5, 3) := by decide +kernel
theorem dX0_statusOfMissingFile_21 : decode cX0_statusOfMissingFile 21 = .ok (.bipush 35, 2) := by decide +kernel
theorem dX0_statusOfMissingFile_23 : decode cX0_statusOfMissingFile 23 = .ok (.ireturn, 1) := by decide +kernel
set_option maxRecDepth 20000 in
theorem ggX0_statusOfAct_X0_statusAheadOfOutcome : GoodIn wsX0_statusOfAct wsX0_statusAheadOfOutcome := goodIn_r _ [6, 7, 8, 9, 10, 11, 12, 13, 5, 14, 15, 16, 17, 18, 19, 20, 21, 22, 23, 50, 51, 52, 53, 54, 55, 56, 57, 58, 59, 60, 61] (by decide +kernel) (by decide +kernel)
set_option maxRecDepth 20000 in
theorem gX0_statusOfAct_X0_statusAheadOfOutcome : GoodIn wsX0_statusOfAct (wsV RX0 97 RX0 yX0_statusAheadOfOutcome wsX0_statusAheadOfOutcome) := goodIn_app (goodIn_of _ (by decide +kernel)) ggX0_statusOfAct_X0_statusAheadOfOutcome
set_option maxRecDepth 20000 in
theorem ggX0_statusOfAct_X0_statusByOutcome : GoodIn wsX0_statusOfAct wsX0_statusByOutcome := goodIn_r _ [27, 8, 28, 29, 30, 5, 31, 32, 33, 34, 35, 36, 37, 38, 39, 40, 41, 42, 43, 44, 45, 46, 47, 48, 49, 50, 51, 52, 53, 54, 55, 56, 57, 58, 59, 60, 61] (by decide +kernel) (by decide +kernel)
set_option maxRecDepth 20000 in
theorem gX0_statusOfAct_X0_statusByOutcome : GoodIn wsX0_statusOfAct (wsV RX0 100 RX0 yX0_statusByOutcome wsX0_statusByOutcome) := goodIn_app (goodIn_of _ (by decide +kernel)) ggX0_statusOfAct_X0_statusByOutcome
theorem dX0_statusOfAct_0 : decode cX0_statusOfAct 0 = .ok (.aload_n 0, 1) := by decide +kernel
theorem dX0_statusOfAct_1 : decode cX0_statusOfAct 1 = .ok (.iload_n 1, 1) := by decide +kernel
theorem dX0_statusOfAct_2 : decode cX0_statusOfAct 2 = .ok (.invokevirtual 97, 3) := by decide +kernel
theorem dX0_statusOfAct_5 : decode cX0_statusOfAct 5 = .ok (.istore_n 3, 1) := by decide +kernel
theorem dX0_statusOfAct_6 : decode cX0_statusOfAct 6 = .ok (.iload_n 3, 1) := by decide +kernel
theorem dX0_statusOfAct_7 : decode cX0_statusOfAct 7 = .ok (.iconst (-1), 1) := by decide +kernel
theorem dX0_statusOfAct_8 : decode cX0_statusOfAct 8 = .ok (.if_icmp .eq 5, 3) := by decide +kernel
theorem dX0_statusOfAct_11 : decode cX0_statusOfAct 11 = .ok (.iload_n 3, 1) := by decide +kernel
theorem dX0_statusOfAct_12 : decode cX0_statusOfAct 12 = .ok (.ireturn, 1) := by decide +kernel
theorem dX0_statusOfAct_13 : decode cX0_statusOfAct 13 = .ok (.iload_n 1, 1) := by decide +kernel
theorem dX0_statusOfAct_14 : decode cX0_statusOfAct 14 = .ok (.ifCond .ne 13, 3) := by decide +kernel
theorem dX0_statusOfAct_17 : decode cX0_statusOfAct 17 = .ok (.aload_n 0, 1) := by decide +kernel
theorem dX0_statusOfAct_18 : decode cX0_statusOfAct 18 = .ok (.getfield 23, 3) := by decide +kernel
theorem dX0_statusOfAct_21 : decode cX0_statusOfAct 21 = .ok (.ifCond .eq 6, 3) := by decide +kernel
theorem dX0_statusOfAct_24 : decode cX0_statusOfAct 24 = .ok (.bipush 10, 2) := by decide +kernel
theorem dX0_statusOfAct_26 : decode cX0_statusOfAct 26 = .ok (.ireturn, 1) := by decide +kernel
theorem dX0_statusOfAct_27 : decode cX0_statusOfAct 27 = .ok (.aload_n 0, 1) := by decide +kernel
theorem dX0_statusOfAct_28 : decode cX0_statusOfAct 28 = .ok (.iload_n 1, 1) := by decide +kernel
theorem dX0_statusOfAct_29 : decode cX0_statusOfAct 29 = .ok (.iload_n 2, 1) := by decide +kernel
theorem dX0_statusOfAct_30 : decode cX0_statusOfAct 30 = .ok (.invokevirtual 100, 3) := by decide +kernel
theorem dX0_statusOfAct_33 : decode cX0_statusOfAct 33 = .ok (.ireturn, 1) := by decide +kernel
set_option maxRecDepth 20000 in
theorem ggX0_statusAheadOfOutcome_X0_statusOfWrongMode : GoodIn wsX0_statusAheadOfOutcome wsX0_statusOfWrongMode := goodIn_r _ [9, 10, 11, 12, 13, 8, 14, 15, 16, 17, 18, 2, 19, 20, 21, 22, 23, 24, 25, 26, 27, 28, 29, 30] (by decide +kernel) (by decide +kernel)
set_option maxRecDepth 20000 in
theorem gX0_statusAheadOfOutcome_X0_statusOfWrongMode : GoodIn wsX0_statusAheadOfOutcome (wsV RX0 103 RX0 yX0_statusOfWrongMode wsX0_statusOfWrongMode) := goodIn_app (goodIn_of _ (by decide +kernel)) ggX0_statusAheadOfOutcome_X0_statusOfWrongMode
theorem dX0_statusAheadOfOutcome_0 : decode cX0_statusAheadOfOutcome 0 = .ok (.aload_n 0, 1) := by decide +kernel
theorem dX0_statusAheadOfOutcome_1 : decode cX0_statusAheadOfOutcome 1 = .ok (.getfield 13, 3) := by decide +kernel
theorem dX0_statusAheadOfOutcome_4 : decode cX0_statusAheadOfOutcome 4 = .ok (.ifCond .ne 6, 3) := by decide +kernel
theorem dX0_statusAheadOfOutcome_7 : decode cX0_statusAheadOfOutcome 7 = .ok (.bipush 42, 2) := by decide +kernel
theorem dX0_statusAheadOfOutcome_9 : decode cX0_statusAheadOfOutcome 9 = .ok (.ireturn, 1) := by decide +kernel
theorem dX0_statusAheadOfOutcome_10 : decode cX0_statusAheadOfOutcome 10 = .ok (.aload_n 0, 1) := by decide +kernel
theorem dX0_statusAheadOfOutcome_11 : decode cX0_statusAheadOfOutcome 11 = .ok (.getfield 53, 3) := by decide +kernel
theorem dX0_statusAheadOfOutcome_14 : decode cX0_statusAheadOfOutcome 14 = .ok (.ifCond .ne 21, 3) := by decide +kernel
theorem dX0_statusAheadOfOutcome_17 : decode cX0_statusAheadOfOutcome 17 = .ok (.iload_n 1, 1) := by decide +kernel
theorem dX0_statusAheadOfOutcome_18 : decode cX0_statusAheadOfOutcome 18 = .ok (.iconst 1, 1) := by decide +kernel
theorem dX0_statusAheadOfOutcome_19 : decode cX0_statusAheadOfOutcome 19 = .ok (.if_icmp .eq 13, 3) := by decide +kernel
theorem dX0_statusAheadOfOutcome_22 : decode cX0_statusAheadOfOutcome 22 = .ok (.iload_n 1, 1) := by decide +kernel
theorem dX0_statusAheadOfOutcome_23 : decode cX0_statusAheadOfOutcome 23 = .ok (.iconst 4, 1) := by decide +kernel
theorem dX0_statusAheadOfOutcome_24 : decode cX0_statusAheadOfOutcome 24 = .ok (.if_icmp .eq 8, 3) := by decide +kernel
theorem dX0_statusAheadOfOutcome_27 : decode cX0_statusAheadOfOutcome 27 = .ok (.iload_n 1, 1) := by decide +kernel
theorem dX0_statusAheadOfOutcome_28 : decode cX0_statusAheadOfOutcome 28 = .ok (.iconst 5, 1) := by decide +kernel
theorem dX0_statusAheadOfOutcome_29 : decode cX0_statusAheadOfOutcome 29 = .ok (.if_icmp .ne 6, 3) := by decide +kernel
theorem dX0_statusAheadOfOutcome_32 : decode cX0_statusAheadOfOutcome 32 = .ok (.bipush 90, 2) := by decide +kernel
theorem dX0_statusAheadOfOutcome_34 : decode cX0_statusAheadOfOutcome 34 = .ok (.ireturn, 1) := by decide +kernel
theorem dX0_statusAheadOfOutcome_35 : decode cX0_statusAheadOfOutcome 35 = .ok (.aload_n 0, 1) := by decide +kernel
theorem dX0_statusAheadOfOutcome_36 : decode cX0_statusAheadOfOutcome 36 = .ok (.iload_n 1, 1) := by decide +kernel
theorem dX0_statusAheadOfOutcome_37 : decode cX0_statusAheadOfOutcome 37 = .ok (.invokevirtual 103, 3) := by decide +kernel
theorem dX0_statusAheadOfOutcome_40 : decode cX0_statusAheadOfOutcome 40 = .ok (.istore_n 2, 1) := by decide +kernel
theorem dX0_statusAheadOfOutcome_41 : decode cX0_statusAheadOfOutcome 41 = .ok (.iload_n 2, 1) := by decide +kernel
theorem dX0_statusAheadOfOutcome_42 : decode cX0_statusAheadOfOutcome 42 = .ok (.iconst (-1), 1) := by decide +kernel
theorem dX0_statusAheadOfOutcome_43 : decode cX0_statusAheadOfOutcome 43 = .ok (.if_icmp .eq 5, 3) := by decide +kernel
theorem dX0_statusAheadOfOutcome_46 : decode cX0_statusAheadOfOutcome 46 = .ok (.iload_n 2, 1) := by decide +kernel
theorem dX0_statusAheadOfOutcome_47 : decode cX0_statusAheadOfOutcome 47 = .ok (.ireturn, 1) := by decide +kernel
theorem dX0_statusAheadOfOutcome_48 : decode cX0_statusAheadOfOutcome 48 = .ok (.iload_n 1, 1) := by decide +kernel
theorem dX0_statusAheadOfOutcome_49 : decode cX0_statusAheadOfOutcome 49 = .ok (.iconst 3, 1) := by decide +kernel
theorem dX0_statusAheadOfOutcome_50 : decode cX0_statusAheadOfOutcome 50 = .ok (.if_icmp .ne 20, 3) := by decide +kernel
theorem dX0_statusAheadOfOutcome_53 : decode cX0_statusAheadOfOutcome 53 = .ok (.aload_n 0, 1) := by decide +kernel
theorem dX0_statusAheadOfOutcome_54 : decode cX0_statusAheadOfOutcome 54 = .ok (.getfield 53, 3) := by decide +kernel
theorem dX0_statusAheadOfOutcome_57 : decode cX0_statusAheadOfOutcome 57 = .ok (.ifCond .ne 13, 3) := by decide +kernel
theorem dX0_statusAheadOfOutcome_60 : decode cX0_statusAheadOfOutcome 60 = .ok (.aload_n 0, 1) := by decide +kernel
theorem dX0_statusAheadOfOutcome_61 : decode cX0_statusAheadOfOutcome 61 = .ok (.getfield 26, 3) := by decide +kernel
theorem dX0_statusAheadOfOutcome_64 : decode cX0_statusAheadOfOutcome 64 = .ok (.ifCond .ne 6, 3) := by decide +kernel
theorem dX0_statusAheadOfOutcome_67 : decode cX0_statusAheadOfOutcome 67 = .ok (.bipush 43, 2) := by decide +kernel
theorem dX0_statusAheadOfOutcome_69 : decode cX0_statusAheadOfOutcome 69 = .ok (.ireturn, 1) := by decide +kernel
theorem dX0_statusAheadOfOutcome_70 : decode cX0_statusAheadOfOutcome 70 = .ok (.iload_n 1, 1) := by decide +kernel
theorem dX0_statusAheadOfOutcome_71 : decode cX0_statusAheadOfOutcome 71 = .ok (.ifCond .ne 22, 3) := by decide +kernel
theorem dX0_statusAheadOfOutcome_74 : decode cX0_statusAheadOfOutcome 74 = .ok (.aload_n 0, 1) := by decide +kernel
theorem dX0_statusAheadOfOutcome_75 : decode cX0_statusAheadOfOutcome 75 = .ok (.getfield 20, 3) := by decide +kernel
theorem dX0_statusAheadOfOutcome_78 : decode cX0_statusAheadOfOutcome 78 = .ok (.iconst 2, 1) := by decide +kernel
theorem dX0_statusAheadOfOutcome_79 : decode cX0_statusAheadOfOutcome 79 = .ok (.if_icmp .eq 11, 3) := by decide +kernel
theorem dX0_statusAheadOfOutcome_82 : decode cX0_statusAheadOfOutcome 82 = .ok (.aload_n 0, 1) := by decide +kernel
theorem dX0_statusAheadOfOutcome_83 : decode cX0_statusAheadOfOutcome 83 = .ok (.getfield 20, 3) := by decide +kernel
theorem dX0_statusAheadOfOutcome_86 : decode cX0_statusAheadOfOutcome 86 = .ok (.iconst 3, 1) := by decide +kernel
theorem dX0_statusAheadOfOutcome_87 : decode cX0_statusAheadOfOutcome 87 = .ok (.if_icmp .ne 6, 3) := by decide +kernel
theorem dX0_statusAheadOfOutcome_90 : decode cX0_statusAheadOfOutcome 90 = .ok (.bipush 46, 2) := by decide +kernel
theorem dX0_statusAheadOfOutcome_92 : decode cX0_statusAheadOfOutcome 92 = .ok (.ireturn, 1) := by decide +kernel
theorem dX0_statusAheadOfOutcome_93 : decode cX0_statusAheadOfOutcome 93 = .ok (.iconst (-1), 1) := by decide +kernel
theorem dX0_statusAheadOfOutcome_94 : decode cX0_statusAheadOfOutcome 94 = .ok (.ireturn, 1) := by decide +kernel
set_option maxRecDepth 20000 in
theorem ggX0_statusOfWrongMode_X0_isForReading : GoodIn wsX0_statusOfWrongMode wsX0_isForReading := goodIn_r _ [6, 1, 12, 13, 14, 15, 16, 17, 18, 19, 20, 21, 22, 23] (by decide +kernel) (by decide +kernel)
set_option maxRecDepth 20000 in
theorem gX0_statusOfWrongMode_X0_isForReading : GoodIn wsX0_statusOfWrongMode (wsV RX0 60 RX0 yX0_isForReading wsX0_isForReading) := goodIn_app (goodIn_of _ (by decide +kernel)) ggX0_statusOfWrongMode_X0_isForReading
set_option maxRecDepth 20000 in
theorem ggX0_statusOfWrongMode_X0_isForWriting : GoodIn wsX0_statusOfWrongMode wsX0_isForWriting := goodIn_r _ [10, 1, 11, 12, 13, 14, 15, 16, 17, 18, 19, 20, 21, 22, 23] (by decide +kernel) (by decide +kernel)
set_option maxRecDepth 20000 in
theorem gX0_statusOfWrongMode_X0_isForWriting : GoodIn wsX0_statusOfWrongMode (wsV RX0 106 RX0 yX0_isForWriting wsX0_isForWriting) := goodIn_app (goodIn_of _ (by decide +kernel)) ggX0_statusOfWrongMode_X0_isForWriting
theorem dX0_statusOfWrongMode_0 : decode cX0_statusOfWrongMode 0 = .ok (.iload_n 1, 1) := by decide +kernel
theorem dX0_statusOfWrongMode_1 : decode cX0_statusOfWrongMode 1 = .ok (.tableswitch 82 0 5 #[39, 39, 53, 67, 67, 39], 39) := by decide +kernel
theorem dX0_statusOfWrongMode_40 : decode cX0_statusOfWrongMode 40 = .ok (.aload_n 0, 1) := by decide +kernel
theorem dX0_statusOfWrongMode_41 : decode cX0_statusOfWrongMode 41 = .ok (.invokevirtual 60, 3) := by decide +kernel
theorem dX0_statusOfWrongMode_44 : decode cX0_statusOfWrongMode 44 = .ok (.ifCond .eq 7, 3) := by decide +kernel
theorem dX0_statusOfWrongMode_47 : decode cX0_statusOfWrongMode 47 = .ok (.iconst (-1), 1) := by decide +kernel
theorem dX0_statusOfWrongMode_48 : decode cX0_statusOfWrongMode 48 = .ok (.goto 5, 3) := by decide +kernel
theorem dX0_statusOfWrongMode_51 : decode cX0_statusOfWrongMode 51 = .ok (.bipush 47, 2) := by decide +kernel
theorem dX0_statusOfWrongMode_53 : decode cX0_statusOfWrongMode 53 = .ok (.ireturn, 1) := by decide +kernel
theorem dX0_statusOfWrongMode_54 : decode cX0_statusOfWrongMode 54 = .ok (.aload_n 0, 1) := by decide +kernel
theorem dX0_statusOfWrongMode_55 : decode cX0_statusOfWrongMode 55 = .ok (.invokevirtual 106, 3) := by decide +kernel
theorem dX0_statusOfWrongMode_58 : decode cX0_statusOfWrongMode 58 = .ok (.ifCond .eq 7, 3) := by decide +kernel
theorem dX0_statusOfWrongMode_61 : decode cX0_statusOfWrongMode 61 = .ok (.iconst (-1), 1) := by decide +kernel
theorem dX0_statusOfWrongMode_62 : decode cX0_statusOfWrongMode 62 = .ok (.goto 5, 3) := by decide +kernel
theorem dX0_statusOfWrongMode_65 : decode cX0_statusOfWrongMode 65 = .ok (.bipush 48, 2) := by decide +kernel
theorem dX0_statusOfWrongMode_67 : decode cX0_statusOfWrongMode 67 = .ok (.ireturn, 1) := by decide +kernel
theorem dX0_statusOfWrongMode_68 : decode cX0_statusOfWrongMode 68 = .ok (.aload_n 0, 1) := by decide +kernel
theorem dX0_statusOfWrongMode_69 : decode cX0_statusOfWrongMode 69 = .ok (.getfield 9, 3) := by decide +kernel
theorem dX0_statusOfWrongMode_72 : decode cX0_statusOfWrongMode 72 = .ok (.iconst 2, 1) := by decide +kernel
theorem dX0_statusOfWrongMode_73 : decode cX0_statusOfWrongMode 73 = .ok (.if_icmp .ne 7, 3) := by decide +kernel
theorem dX0_statusOfWrongMode_76 : decode cX0_statusOfWrongMode 76 = .ok (.iconst (-1), 1) := by decide +kernel
theorem dX0_statusOfWrongMode_77 : decode cX0_statusOfWrongMode 77 = .ok (.goto 5, 3) := by decide +kernel
theorem dX0_statusOfWrongMode_80 : decode cX0_statusOfWrongMode 80 = .ok (.bipush 49, 2) := by decide +kernel
theorem dX0_statusOfWrongMode_82 : decode cX0_statusOfWrongMode 82 = .ok (.ireturn, 1) := by decide +kernel
theorem dX0_statusOfWrongMode_83 : decode cX0_statusOfWrongMode 83 = .ok (.iconst (-1), 1) := by decide +kernel
theorem dX0_statusOfWrongMode_84 : decode cX0_statusOfWrongMode 84 = .ok (.ireturn, 1) := by decide +kernel
set_option maxRecDepth 20000 in
theorem ggX0_statusByOutcome_X0_statusOfNoRecord : GoodIn wsX0_statusByOutcome wsX0_statusOfNoRecord := goodIn_r _ [6, 1, 25, 26, 27, 28, 29, 30, 31, 32, 33, 34, 35, 36] (by decide +kernel) (by decide +kernel)
set_option maxRecDepth 20000 in
theorem gX0_statusByOutcome_X0_statusOfNoRecord : GoodIn wsX0_statusByOutcome (wsV RX0 109 RX0 yX0_statusOfNoRecord wsX0_statusOfNoRecord) := goodIn_app (goodIn_of _ (by decide +kernel)) ggX0_statusByOutcome_X0_statusOfNoRecord
set_option maxRecDepth 20000 in
theorem ggX0_statusByOutcome_X0_statusOfBarredDouble : GoodIn wsX0_statusByOutcome wsX0_statusOfBarredDouble := goodIn_r _ [10, 1, 25, 26, 27, 28, 29, 30, 31, 32, 33, 34, 35, 36] (by decide +kernel) (by decide +kernel)
set_option maxRecDepth 20000 in
theorem gX0_statusByOutcome_X0_statusOfBarredDouble : GoodIn wsX0_statusByOutcome (wsV RX0 112 RX0 yX0_statusOfBarredDouble wsX0_statusOfBarredDouble) := goodIn_app (goodIn_of _ (by decide +kernel)) ggX0_statusByOutcome_X0_statusOfBarredDouble
set_option maxRecDepth 20000 in
theorem ggX0_statusByOutcome_X0_statusOfNoRoom : GoodIn wsX0_statusByOutcome wsX0_statusOfNoRoom := goodIn_r _ [14, 1, 25, 26, 27, 28, 29, 30, 31, 32, 33, 34, 35, 36] (by decide +kernel) (by decide +kernel)
set_option maxRecDepth 20000 in
theorem gX0_statusByOutcome_X0_statusOfNoRoom : GoodIn wsX0_statusByOutcome (wsV RX0 115 RX0 yX0_statusOfNoRoom wsX0_statusOfNoRoom) := goodIn_app (goodIn_of _ (by decide +kernel)) ggX0_statusByOutcome_X0_statusOfNoRoom
set_option maxRecDepth 20000 in
theorem ggX0_statusByOutcome_X0_statusOfLength : GoodIn wsX0_statusByOutcome wsX0_statusOfLength := goodIn_r _ [18, 19, 20, 5, 21, 22, 23, 24] (by decide +kernel) (by decide +kernel)
set_option maxRecDepth 20000 in
theorem gX0_statusByOutcome_X0_statusOfLength : GoodIn wsX0_statusByOutcome (wsV RX0 118 RX0 yX0_statusOfLength wsX0_statusOfLength) := goodIn_app (goodIn_of _ (by decide +kernel)) ggX0_statusByOutcome_X0_statusOfLength
set_option maxRecDepth 20000 in
theorem ggX0_statusByOutcome_X0_isWriteOrRewrite : GoodIn wsX0_statusByOutcome wsX0_isWriteOrRewrite := goodIn_r _ [24] (by decide +kernel) (by decide +kernel)
set_option maxRecDepth 20000 in
theorem gX0_statusByOutcome_X0_isWriteOrRewrite : GoodIn wsX0_statusByOutcome (va_wsS RX0 121 yX0_isWriteOrRewrite wsX0_isWriteOrRewrite) := goodIn_app (goodIn_of _ (by decide +kernel)) ggX0_statusByOutcome_X0_isWriteOrRewrite
theorem dX0_statusByOutcome_0 : decode cX0_statusByOutcome 0 = .ok (.iload_n 2, 1) := by decide +kernel
theorem dX0_statusByOutcome_1 : decode cX0_statusByOutcome 1 = .ok (.tableswitch 137 0 8 #[51, 53, 59, 79, 85, 91, 94, 108, 114], 51) := by decide +kernel
theorem dX0_statusByOutcome_52 : decode cX0_statusByOutcome 52 = .ok (.iconst 0, 1) := by decide +kernel
theorem dX0_statusByOutcome_53 : decode cX0_statusByOutcome 53 = .ok (.ireturn, 1) := by decide +kernel
theorem dX0_statusByOutcome_54 : decode cX0_statusByOutcome 54 = .ok (.aload_n 0, 1) := by decide +kernel
theorem dX0_statusByOutcome_55 : decode cX0_statusByOutcome 55 = .ok (.iload_n 1, 1) := by decide +kernel
theorem dX0_statusByOutcome_56 : decode cX0_statusByOutcome 56 = .ok (.invokevirtual 109, 3) := by decide +kernel
theorem dX0_statusByOutcome_59 : decode cX0_statusByOutcome 59 = .ok (.ireturn, 1) := by decide +kernel
theorem dX0_statusByOutcome_60 : decode cX0_statusByOutcome 60 = .ok (.aload_n 0, 1) := by decide +kernel
theorem dX0_statusByOutcome_61 : decode cX0_statusByOutcome 61 = .ok (.getfield 53, 3) := by decide +kernel
theorem dX0_statusByOutcome_64 : decode cX0_statusByOutcome 64 = .ok (.iconst 2, 1) := by decide +kernel
theorem dX0_statusByOutcome_65 : decode cX0_statusByOutcome 65 = .ok (.if_icmp .ne 12, 3) := by decide +kernel
theorem dX0_statusByOutcome_68 : decode cX0_statusByOutcome 68 = .ok (.iload_n 1, 1) := by decide +kernel
theorem dX0_statusByOutcome_69 : decode cX0_statusByOutcome 69 = .ok (.iconst 3, 1) := by decide +kernel
theorem dX0_statusByOutcome_70 : decode cX0_statusByOutcome 70 = .ok (.if_icmp .gt 7, 3) := by decide +kernel
theorem dX0_statusByOutcome_73 : decode cX0_statusByOutcome 73 = .ok (.iconst 2, 1) := by decide +kernel
theorem dX0_statusByOutcome_74 : decode cX0_statusByOutcome 74 = .ok (.goto 5, 3) := by decide +kernel
theorem dX0_statusByOutcome_77 : decode cX0_statusByOutcome 77 = .ok (.bipush 90, 2) := by decide +kernel
theorem dX0_statusByOutcome_79 : decode cX0_statusByOutcome 79 = .ok (.ireturn, 1) := by decide +kernel
theorem dX0_statusByOutcome_80 : decode cX0_statusByOutcome 80 = .ok (.aload_n 0, 1) := by decide +kernel
theorem dX0_statusByOutcome_81 : decode cX0_statusByOutcome 81 = .ok (.iload_n 1, 1) := by decide +kernel
theorem dX0_statusByOutcome_82 : decode cX0_statusByOutcome 82 = .ok (.invokevirtual 112, 3) := by decide +kernel
theorem dX0_statusByOutcome_85 : decode cX0_statusByOutcome 85 = .ok (.ireturn, 1) := by decide +kernel
theorem dX0_statusByOutcome_86 : decode cX0_statusByOutcome 86 = .ok (.aload_n 0, 1) := by decide +kernel
theorem dX0_statusByOutcome_87 : decode cX0_statusByOutcome 87 = .ok (.iload_n 1, 1) := by decide +kernel
theorem dX0_statusByOutcome_88 : decode cX0_statusByOutcome 88 = .ok (.invokevirtual 115, 3) := by decide +kernel
theorem dX0_statusByOutcome_91 : decode cX0_statusByOutcome 91 = .ok (.ireturn, 1) := by decide +kernel
theorem dX0_statusByOutcome_92 : decode cX0_statusByOutcome 92 = .ok (.bipush 30, 2) := by decide +kernel
theorem dX0_statusByOutcome_94 : decode cX0_statusByOutcome 94 = .ok (.ireturn, 1) := by decide +kernel
theorem dX0_statusByOutcome_95 : decode cX0_statusByOutcome 95 = .ok (.iload_n 1, 1) := by decide +kernel
theorem dX0_statusByOutcome_96 : decode cX0_statusByOutcome 96 = .ok (.bipush 6, 2) := by decide +kernel
theorem dX0_statusByOutcome_98 : decode cX0_statusByOutcome 98 = .ok (.if_icmp .ne 8, 3) := by decide +kernel
theorem dX0_statusByOutcome_101 : decode cX0_statusByOutcome 101 = .ok (.bipush 90, 2) := by decide +kernel
theorem dX0_statusByOutcome_103 : decode cX0_statusByOutcome 103 = .ok (.goto 5, 3) := by decide +kernel
theorem dX0_statusByOutcome_106 : decode cX0_statusByOutcome 106 = .ok (.bipush 51, 2) := by decide +kernel
theorem dX0_statusByOutcome_108 : decode cX0_statusByOutcome 108 = .ok (.ireturn, 1) := by decide +kernel
theorem dX0_statusByOutcome_109 : decode cX0_statusByOutcome 109 = .ok (.aload_n 0, 1) := by decide +kernel
theorem dX0_statusByOutcome_110 : decode cX0_statusByOutcome 110 = .ok (.iload_n 1, 1) := by decide +kernel
theorem dX0_statusByOutcome_111 : decode cX0_statusByOutcome 111 = .ok (.invokevirtual 118, 3) := by decide +kernel
theorem dX0_statusByOutcome_114 : decode cX0_statusByOutcome 114 = .ok (.ireturn, 1) := by decide +kernel
theorem dX0_statusByOutcome_115 : decode cX0_statusByOutcome 115 = .ok (.aload_n 0, 1) := by decide +kernel
theorem dX0_statusByOutcome_116 : decode cX0_statusByOutcome 116 = .ok (.getfield 53, 3) := by decide +kernel
theorem dX0_statusByOutcome_119 : decode cX0_statusByOutcome 119 = .ok (.iconst 2, 1) := by decide +kernel
theorem dX0_statusByOutcome_120 : decode cX0_statusByOutcome 120 = .ok (.if_icmp .ne 15, 3) := by decide +kernel
theorem dX0_statusByOutcome_123 : decode cX0_statusByOutcome 123 = .ok (.iload_n 1, 1) := by decide +kernel
theorem dX0_statusByOutcome_124 : decode cX0_statusByOutcome 124 = .ok (.invokestatic 121, 3) := by decide +kernel
theorem dX0_statusByOutcome_127 : decode cX0_statusByOutcome 127 = .ok (.ifCond .eq 8, 3) := by decide +kernel
theorem dX0_statusByOutcome_130 : decode cX0_statusByOutcome 130 = .ok (.bipush 21, 2) := by decide +kernel
theorem dX0_statusByOutcome_132 : decode cX0_statusByOutcome 132 = .ok (.goto 5, 3) := by decide +kernel
theorem dX0_statusByOutcome_135 : decode cX0_statusByOutcome 135 = .ok (.bipush 90, 2) := by decide +kernel
theorem dX0_statusByOutcome_137 : decode cX0_statusByOutcome 137 = .ok (.ireturn, 1) := by decide +kernel
theorem dX0_statusByOutcome_138 : decode cX0_statusByOutcome 138 = .ok (.bipush 90, 2) := by decide +kernel
theorem dX0_statusByOutcome_140 : decode cX0_statusByOutcome 140 = .ok (.ireturn, 1) := by decide +kernel
theorem dX0_statusOfNoRecord_0 : decode cX0_statusOfNoRecord 0 = .ok (.iload_n 1, 1) := by decide +kernel
theorem dX0_statusOfNoRecord_1 : decode cX0_statusOfNoRecord 1 = .ok (.tableswitch 60 0 5 #[39, 57, 60, 42, 57, 57], 39) := by decide +kernel
theorem dX0_statusOfNoRecord_40 : decode cX0_statusOfNoRecord 40 = .ok (.bipush 10, 2) := by decide +kernel
theorem dX0_statusOfNoRecord_42 : decode cX0_statusOfNoRecord 42 = .ok (.ireturn, 1) := by decide +kernel
theorem dX0_statusOfNoRecord_43 : decode cX0_statusOfNoRecord 43 = .ok (.aload_n 0, 1) := by decide +kernel
theorem dX0_statusOfNoRecord_44 : decode cX0_statusOfNoRecord 44 = .ok (.getfield 53, 3) := by decide +kernel
theorem dX0_statusOfNoRecord_47 : decode cX0_statusOfNoRecord 47 = .ok (.ifCond .ne 8, 3) := by decide +kernel
theorem dX0_statusOfNoRecord_50 : decode cX0_statusOfNoRecord 50 = .ok (.bipush 90, 2) := by decide +kernel
theorem dX0_statusOfNoRecord_52 : decode cX0_statusOfNoRecord 52 = .ok (.goto 5, 3) := by decide +kernel
theorem dX0_statusOfNoRecord_55 : decode cX0_statusOfNoRecord 55 = .ok (.bipush 23, 2) := by decide +kernel
theorem dX0_statusOfNoRecord_57 : decode cX0_statusOfNoRecord 57 = .ok (.ireturn, 1) := by decide +kernel
theorem dX0_statusOfNoRecord_58 : decode cX0_statusOfNoRecord 58 = .ok (.bipush 23, 2) := by decide +kernel
theorem dX0_statusOfNoRecord_60 : decode cX0_statusOfNoRecord 60 = .ok (.ireturn, 1) := by decide +kernel
theorem dX0_statusOfNoRecord_61 : decode cX0_statusOfNoRecord 61 = .ok (.bipush 90, 2) := by decide +kernel
theorem dX0_statusOfNoRecord_63 : decode cX0_statusOfNoRecord 63 = .ok (.ireturn, 1) := by decide +kernel
theorem dX0_statusOfBarredDouble_0 : decode cX0_statusOfBarredDouble 0 = .ok (.iload_n 1, 1) := by decide +kernel
theorem dX0_statusOfBarredDouble_1 : decode cX0_statusOfBarredDouble 1 = .ok (.iconst 2, 1) := by decide +kernel
theorem dX0_statusOfBarredDouble_2 : decode cX0_statusOfBarredDouble 2 = .ok (.if_icmp .ne 14, 3) := by decide +kernel
theorem dX0_statusOfBarredDouble_5 : decode cX0_statusOfBarredDouble 5 = .ok (.aload_n 0, 1) := by decide +kernel
theorem dX0_statusOfBarredDouble_6 : decode cX0_statusOfBarredDouble 6 = .ok (.getfield 53, 3) := by decide +kernel
theorem dX0_statusOfBarredDouble_9 : decode cX0_statusOfBarredDouble 9 = .ok (.ifCond .eq 7, 3) := by decide +kernel
theorem dX0_statusOfBarredDouble_12 : decode cX0_statusOfBarredDouble 12 = .ok (.iconst 1, 1) := by decide +kernel
theorem dX0_statusOfBarredDouble_13 : decode cX0_statusOfBarredDouble 13 = .ok (.goto 4, 3) := by decide +kernel
theorem dX0_statusOfBarredDouble_16 : decode cX0_statusOfBarredDouble 16 = .ok (.iconst 0, 1) := by decide +kernel
theorem dX0_statusOfBarredDouble_17 : decode cX0_statusOfBarredDouble 17 = .ok (.istore_n 2, 1) := by decide +kernel
theorem dX0_statusOfBarredDouble_18 : decode cX0_statusOfBarredDouble 18 = .ok (.iload_n 1, 1) := by decide +kernel
theorem dX0_statusOfBarredDouble_19 : decode cX0_statusOfBarredDouble 19 = .ok (.iconst 3, 1) := by decide +kernel
theorem dX0_statusOfBarredDouble_20 : decode cX0_statusOfBarredDouble 20 = .ok (.if_icmp .ne 15, 3) := by decide +kernel
theorem dX0_statusOfBarredDouble_23 : decode cX0_statusOfBarredDouble 23 = .ok (.aload_n 0, 1) := by decide +kernel
theorem dX0_statusOfBarredDouble_24 : decode cX0_statusOfBarredDouble 24 = .ok (.getfield 53, 3) := by decide +kernel
theorem dX0_statusOfBarredDouble_27 : decode cX0_statusOfBarredDouble 27 = .ok (.iconst 2, 1) := by decide +kernel
theorem dX0_statusOfBarredDouble_28 : decode cX0_statusOfBarredDouble 28 = .ok (.if_icmp .ne 7, 3) := by decide +kernel
theorem dX0_statusOfBarredDouble_31 : decode cX0_statusOfBarredDouble 31 = .ok (.iconst 1, 1) := by decide +kernel
theorem dX0_statusOfBarredDouble_32 : decode cX0_statusOfBarredDouble 32 = .ok (.goto 4, 3) := by decide +kernel
theorem dX0_statusOfBarredDouble_35 : decode cX0_statusOfBarredDouble 35 = .ok (.iconst 0, 1) := by decide +kernel
theorem dX0_statusOfBarredDouble_36 : decode cX0_statusOfBarredDouble 36 = .ok (.istore_n 3, 1) := by decide +kernel
theorem dX0_statusOfBarredDouble_37 : decode cX0_statusOfBarredDouble 37 = .ok (.iload_n 2, 1) := by decide +kernel
theorem dX0_statusOfBarredDouble_38 : decode cX0_statusOfBarredDouble 38 = .ok (.ifCond .ne 7, 3) := by decide +kernel
theorem dX0_statusOfBarredDouble_41 : decode cX0_statusOfBarredDouble 41 = .ok (.iload_n 3, 1) := by decide +kernel
theorem dX0_statusOfBarredDouble_42 : decode cX0_statusOfBarredDouble 42 = .ok (.ifCond .eq 8, 3) := by decide +kernel
theorem dX0_statusOfBarredDouble_45 : decode cX0_statusOfBarredDouble 45 = .ok (.bipush 22, 2) := by decide +kernel
theorem dX0_statusOfBarredDouble_47 : decode cX0_statusOfBarredDouble 47 = .ok (.goto 5, 3) := by decide +kernel
theorem dX0_statusOfBarredDouble_50 : decode cX0_statusOfBarredDouble 50 = .ok (.bipush 90, 2) := by decide +kernel
theorem dX0_statusOfBarredDouble_52 : decode cX0_statusOfBarredDouble 52 = .ok (.ireturn, 1) := by decide +kernel
theorem dX0_statusOfNoRoom_0 : decode cX0_statusOfNoRoom 0 = .ok (.iload_n 1, 1) := by decide +kernel
theorem dX0_statusOfNoRoom_1 : decode cX0_statusOfNoRoom 1 = .ok (.iconst 2, 1) := by decide +kernel
theorem dX0_statusOfNoRoom_2 : decode cX0_statusOfNoRoom 2 = .ok (.if_icmp .ne 18, 3) := by decide +kernel
theorem dX0_statusOfNoRoom_5 : decode cX0_statusOfNoRoom 5 = .ok (.aload_n 0, 1) := by decide +kernel
theorem dX0_statusOfNoRoom_6 : decode cX0_statusOfNoRoom 6 = .ok (.getfield 53, 3) := by decide +kernel
theorem dX0_statusOfNoRoom_9 : decode cX0_statusOfNoRoom 9 = .ok (.ifCond .ne 8, 3) := by decide +kernel
theorem dX0_statusOfNoRoom_12 : decode cX0_statusOfNoRoom 12 = .ok (.bipush 34, 2) := by decide +kernel
theorem dX0_statusOfNoRoom_14 : decode cX0_statusOfNoRoom 14 = .ok (.goto 5, 3) := by decide +kernel
theorem dX0_statusOfNoRoom_17 : decode cX0_statusOfNoRoom 17 = .ok (.bipush 24, 2) := by decide +kernel
theorem dX0_statusOfNoRoom_19 : decode cX0_statusOfNoRoom 19 = .ok (.ireturn, 1) := by decide +kernel
theorem dX0_statusOfNoRoom_20 : decode cX0_statusOfNoRoom 20 = .ok (.iload_n 1, 1) := by decide +kernel
theorem dX0_statusOfNoRoom_21 : decode cX0_statusOfNoRoom 21 = .ok (.ifCond .ne 16, 3) := by decide +kernel
theorem dX0_statusOfNoRoom_24 : decode cX0_statusOfNoRoom 24 = .ok (.aload_n 0, 1) := by decide +kernel
theorem dX0_statusOfNoRoom_25 : decode cX0_statusOfNoRoom 25 = .ok (.getfield 53, 3) := by decide +kernel
theorem dX0_statusOfNoRoom_28 : decode cX0_statusOfNoRoom 28 = .ok (.iconst 1, 1) := by decide +kernel
theorem dX0_statusOfNoRoom_29 : decode cX0_statusOfNoRoom 29 = .ok (.if_icmp .ne 8, 3) := by decide +kernel
theorem dX0_statusOfNoRoom_32 : decode cX0_statusOfNoRoom 32 = .ok (.bipush 14, 2) := by decide +kernel
theorem dX0_statusOfNoRoom_34 : decode cX0_statusOfNoRoom 34 = .ok (.goto 5, 3) := by decide +kernel
theorem dX0_statusOfNoRoom_37 : decode cX0_statusOfNoRoom 37 = .ok (.bipush 90, 2) := by decide +kernel
theorem dX0_statusOfNoRoom_39 : decode cX0_statusOfNoRoom 39 = .ok (.ireturn, 1) := by decide +kernel
set_option maxRecDepth 20000 in
theorem ggX0_statusOfLength_X0_isRead : GoodIn wsX0_statusOfLength wsX0_isRead := goodIn_r _ [4] (by decide +kernel) (by decide +kernel)
set_option maxRecDepth 20000 in
theorem gX0_statusOfLength_X0_isRead : GoodIn wsX0_statusOfLength (va_wsS RX0 74 yX0_isRead wsX0_isRead) := goodIn_app (goodIn_of _ (by decide +kernel)) ggX0_statusOfLength_X0_isRead
set_option maxRecDepth 20000 in
theorem ggX0_statusOfLength_X0_isWriteOrRewrite : GoodIn wsX0_statusOfLength wsX0_isWriteOrRewrite := goodIn_r _ [7] (by decide +kernel) (by decide +kernel)
set_option maxRecDepth 20000 in
theorem gX0_statusOfLength_X0_isWriteOrRewrite : GoodIn wsX0_statusOfLength (va_wsS RX0 121 yX0_isWriteOrRewrite wsX0_isWriteOrRewrite) := goodIn_app (goodIn_of _ (by decide +kernel)) ggX0_statusOfLength_X0_isWriteOrRewrite
theorem dX0_statusOfLength_0 : decode cX0_statusOfLength 0 = .ok (.iload_n 1, 1) := by decide +kernel
theorem dX0_statusOfLength_1 : decode cX0_statusOfLength 1 = .ok (.invokestatic 74, 3) := by decide +kernel
theorem dX0_statusOfLength_4 : decode cX0_statusOfLength 4 = .ok (.ifCond .eq 5, 3) := by decide +kernel
theorem dX0_statusOfLength_7 : decode cX0_statusOfLength 7 = .ok (.iconst 4, 1) := by decide +kernel
theorem dX0_statusOfLength_8 : decode cX0_statusOfLength 8 = .ok (.ireturn, 1) := by decide +kernel
theorem dX0_statusOfLength_9 : decode cX0_statusOfLength 9 = .ok (.iload_n 1, 1) := by decide +kernel
theorem dX0_statusOfLength_10 : decode cX0_statusOfLength 10 = .ok (.invokestatic 121, 3) := by decide +kernel
theorem dX0_statusOfLength_13 : decode cX0_statusOfLength 13 = .ok (.ifCond .eq 8, 3) := by decide +kernel
theorem dX0_statusOfLength_16 : decode cX0_statusOfLength 16 = .ok (.bipush 44, 2) := by decide +kernel
theorem dX0_statusOfLength_18 : decode cX0_statusOfLength 18 = .ok (.goto 5, 3) := by decide +kernel
theorem dX0_statusOfLength_21 : decode cX0_statusOfLength 21 = .ok (.bipush 90, 2) := by decide +kernel
theorem dX0_statusOfLength_23 : decode cX0_statusOfLength 23 = .ok (.ireturn, 1) := by decide +kernel
set_option maxRecDepth 20000 in
theorem ggX0_move_X0_isRead : GoodIn wsX0_move wsX0_isRead := goodIn_r _ [6] (by decide +kernel) (by decide +kernel)
set_option maxRecDepth 20000 in
theorem gX0_move_X0_isRead : GoodIn wsX0_move (va_wsS RX0 74 yX0_isRead wsX0_isRead) := goodIn_app (goodIn_of _ (by decide +kernel)) ggX0_move_X0_isRead
set_option maxRecDepth 20000 in
theorem ggX0_move_X0_placeAfter : GoodIn wsX0_move wsX0_placeAfter := goodIn_r _ [9, 10, 11, 5, 12] (by decide +kernel) (by decide +kernel)
set_option maxRecDepth 20000 in
theorem gX0_move_X0_placeAfter : GoodIn wsX0_move (va_wsS RX0 90 yX0_placeAfter wsX0_placeAfter) := goodIn_app (goodIn_of _ (by decide +kernel)) ggX0_move_X0_placeAfter
theorem dX0_move_0 : decode cX0_move 0 = .ok (.iload_n 1, 1) := by decide +kernel
theorem dX0_move_1 : decode cX0_move 1 = .ok (.invokestatic 74, 3) := by decide +kernel
theorem dX0_move_4 : decode cX0_move 4 = .ok (.ifCond .ne 8, 3) := by decide +kernel
theorem dX0_move_7 : decode cX0_move 7 = .ok (.iload_n 1, 1) := by decide +kernel
theorem dX0_move_8 : decode cX0_move 8 = .ok (.iconst 5, 1) := by decide +kernel
theorem dX0_move_9 : decode cX0_move 9 = .ok (.if_icmp .ne 15, 3) := by decide +kernel
theorem dX0_move_12 : decode cX0_move 12 = .ok (.aload_n 0, 1) := by decide +kernel
theorem dX0_move_13 : decode cX0_move 13 = .ok (.iload_n 2, 1) := by decide +kernel
theorem dX0_move_14 : decode cX0_move 14 = .ok (.aload_n 0, 1) := by decide +kernel
theorem dX0_move_15 : decode cX0_move 15 = .ok (.getfield 20, 3) := by decide +kernel
theorem dX0_move_18 : decode cX0_move 18 = .ok (.invokestatic 90, 3) := by decide +kernel
theorem dX0_move_21 : decode cX0_move 21 = .ok (.putfield 20, 3) := by decide +kernel
theorem dX0_move_24 : decode cX0_move 24 = .ok (.iload_n 1, 1) := by decide +kernel
theorem dX0_move_25 : decode cX0_move 25 = .ok (.bipush 6, 2) := by decide +kernel
theorem dX0_move_27 : decode cX0_move 27 = .ok (.if_icmp .ne 12, 3) := by decide +kernel
theorem dX0_move_30 : decode cX0_move 30 = .ok (.iload_n 2, 1) := by decide +kernel
theorem dX0_move_31 : decode cX0_move 31 = .ok (.ifCond .ne 8, 3) := by decide +kernel
theorem dX0_move_34 : decode cX0_move 34 = .ok (.aload_n 0, 1) := by decide +kernel
theorem dX0_move_35 : decode cX0_move 35 = .ok (.iconst 0, 1) := by decide +kernel
theorem dX0_move_36 : decode cX0_move 36 = .ok (.putfield 13, 3) := by decide +kernel
theorem dX0_move_39 : decode cX0_move 39 = .ok (.return_, 1) := by decide +kernel
theorem dX0_remember_0 : decode cX0_remember 0 = .ok (.aload_n 0, 1) := by decide +kernel
theorem dX0_remember_1 : decode cX0_remember 1 = .ok (.iload_n 1, 1) := by decide +kernel
theorem dX0_remember_2 : decode cX0_remember 2 = .ok (.putfield 32, 3) := by decide +kernel
theorem dX0_remember_5 : decode cX0_remember 5 = .ok (.aload_n 0, 1) := by decide +kernel
theorem dX0_remember_6 : decode cX0_remember 6 = .ok (.iload_n 2, 1) := by decide +kernel
theorem dX0_remember_7 : decode cX0_remember 7 = .ok (.putfield 29, 3) := by decide +kernel
theorem dX0_remember_10 : decode cX0_remember 10 = .ok (.iload_n 2, 1) := by decide +kernel
theorem dX0_remember_11 : decode cX0_remember 11 = .ok (.bipush 9, 2) := by decide +kernel
theorem dX0_remember_13 : decode cX0_remember 13 = .ok (.if_icmp .le 16, 3) := by decide +kernel
theorem dX0_remember_16 : decode cX0_remember 16 = .ok (.aload_n 0, 1) := by decide +kernel
theorem dX0_remember_17 : decode cX0_remember 17 = .ok (.dup, 1) := by decide +kernel
theorem dX0_remember_18 : decode cX0_remember 18 = .ok (.getfield 41, 3) := by decide +kernel
theorem dX0_remember_21 : decode cX0_remember 21 = .ok (.iconst 1, 1) := by decide +kernel
theorem dX0_remember_22 : decode cX0_remember 22 = .ok (.iadd, 1) := by decide +kernel
theorem dX0_remember_23 : decode cX0_remember 23 = .ok (.putfield 41, 3) := by decide +kernel
theorem dX0_remember_26 : decode cX0_remember 26 = .ok (.goto 19, 3) := by decide +kernel
theorem dX0_remember_29 : decode cX0_remember 29 = .ok (.iload_n 1, 1) := by decide +kernel
theorem dX0_remember_30 : decode cX0_remember 30 = .ok (.bipush 7, 2) := by decide +kernel
theorem dX0_remember_32 : decode cX0_remember 32 = .ok (.if_icmp .eq 13, 3) := by decide +kernel
theorem dX0_remember_35 : decode cX0_remember 35 = .ok (.aload_n 0, 1) := by decide +kernel
theorem dX0_remember_36 : decode cX0_remember 36 = .ok (.dup, 1) := by decide +kernel
theorem dX0_remember_37 : decode cX0_remember 37 = .ok (.getfield 38, 3) := by decide +kernel
theorem dX0_remember_40 : decode cX0_remember 40 = .ok (.iconst 1, 1) := by decide +kernel
theorem dX0_remember_41 : decode cX0_remember 41 = .ok (.iadd, 1) := by decide +kernel
theorem dX0_remember_42 : decode cX0_remember 42 = .ok (.putfield 38, 3) := by decide +kernel
theorem dX0_remember_45 : decode cX0_remember 45 = .ok (.return_, 1) := by decide +kernel
theorem dX0_hasDeclarative_0 : decode cX0_hasDeclarative 0 = .ok (.aload_n 0, 1) := by decide +kernel
theorem dX0_hasDeclarative_1 : decode cX0_hasDeclarative 1 = .ok (.getfield 35, 3) := by decide +kernel
theorem dX0_hasDeclarative_4 : decode cX0_hasDeclarative 4 = .ok (.iload_n 1, 1) := by decide +kernel
theorem dX0_hasDeclarative_5 : decode cX0_hasDeclarative 5 = .ok (.ishr, 1) := by decide +kernel
theorem dX0_hasDeclarative_6 : decode cX0_hasDeclarative 6 = .ok (.iconst 1, 1) := by decide +kernel
theorem dX0_hasDeclarative_7 : decode cX0_hasDeclarative 7 = .ok (.iand, 1) := by decide +kernel
theorem dX0_hasDeclarative_8 : decode cX0_hasDeclarative 8 = .ok (.iconst 1, 1) := by decide +kernel
theorem dX0_hasDeclarative_9 : decode cX0_hasDeclarative 9 = .ok (.if_icmp .ne 7, 3) := by decide +kernel
theorem dX0_hasDeclarative_12 : decode cX0_hasDeclarative 12 = .ok (.iconst 1, 1) := by decide +kernel
theorem dX0_hasDeclarative_13 : decode cX0_hasDeclarative 13 = .ok (.goto 4, 3) := by decide +kernel
theorem dX0_hasDeclarative_16 : decode cX0_hasDeclarative 16 = .ok (.iconst 0, 1) := by decide +kernel
theorem dX0_hasDeclarative_17 : decode cX0_hasDeclarative 17 = .ok (.ireturn, 1) := by decide +kernel
theorem dX0_isForReading_0 : decode cX0_isForReading 0 = .ok (.aload_n 0, 1) := by decide +kernel
theorem dX0_isForReading_1 : decode cX0_isForReading 1 = .ok (.getfield 9, 3) := by decide +kernel
theorem dX0_isForReading_4 : decode cX0_isForReading 4 = .ok (.ifCond .eq 11, 3) := by decide +kernel
theorem dX0_isForReading_7 : decode cX0_isForReading 7 = .ok (.aload_n 0, 1) := by decide +kernel
theorem dX0_isForReading_8 : decode cX0_isForReading 8 = .ok (.getfield 9, 3) := by decide +kernel
theorem dX0_isForReading_11 : decode cX0_isForReading 11 = .ok (.iconst 2, 1) := by decide +kernel
theorem dX0_isForReading_12 : decode cX0_isForReading 12 = .ok (.if_icmp .ne 7, 3) := by decide +kernel
theorem dX0_isForReading_15 : decode cX0_isForReading 15 = .ok (.iconst 1, 1) := by decide +kernel
theorem dX0_isForReading_16 : decode cX0_isForReading 16 = .ok (.goto 4, 3) := by decide +kernel
theorem dX0_isForReading_19 : decode cX0_isForReading 19 = .ok (.iconst 0, 1) := by decide +kernel
theorem dX0_isForReading_20 : decode cX0_isForReading 20 = .ok (.ireturn, 1) := by decide +kernel
theorem dX0_isForWriting_0 : decode cX0_isForWriting 0 = .ok (.aload_n 0, 1) := by decide +kernel
theorem dX0_isForWriting_1 : decode cX0_isForWriting 1 = .ok (.getfield 9, 3) := by decide +kernel
theorem dX0_isForWriting_4 : decode cX0_isForWriting 4 = .ok (.iconst 1, 1) := by decide +kernel
theorem dX0_isForWriting_5 : decode cX0_isForWriting 5 = .ok (.if_icmp .eq 26, 3) := by decide +kernel
theorem dX0_isForWriting_8 : decode cX0_isForWriting 8 = .ok (.aload_n 0, 1) := by decide +kernel
theorem dX0_isForWriting_9 : decode cX0_isForWriting 9 = .ok (.getfield 9, 3) := by decide +kernel
theorem dX0_isForWriting_12 : decode cX0_isForWriting 12 = .ok (.iconst 3, 1) := by decide +kernel
theorem dX0_isForWriting_13 : decode cX0_isForWriting 13 = .ok (.if_icmp .eq 18, 3) := by decide +kernel
theorem dX0_isForWriting_16 : decode cX0_isForWriting 16 = .ok (.aload_n 0, 1) := by decide +kernel
theorem dX0_isForWriting_17 : decode cX0_isForWriting 17 = .ok (.getfield 9, 3) := by decide +kernel
theorem dX0_isForWriting_20 : decode cX0_isForWriting 20 = .ok (.iconst 2, 1) := by decide +kernel
theorem dX0_isForWriting_21 : decode cX0_isForWriting 21 = .ok (.if_icmp .ne 14, 3) := by decide +kernel
theorem dX0_isForWriting_24 : decode cX0_isForWriting 24 = .ok (.aload_n 0, 1) := by decide +kernel
theorem dX0_isForWriting_25 : decode cX0_isForWriting 25 = .ok (.getfield 53, 3) := by decide +kernel
theorem dX0_isForWriting_28 : decode cX0_isForWriting 28 = .ok (.ifCond .eq 7, 3) := by decide +kernel
theorem dX0_isForWriting_31 : decode cX0_isForWriting 31 = .ok (.iconst 1, 1) := by decide +kernel
theorem dX0_isForWriting_32 : decode cX0_isForWriting 32 = .ok (.goto 4, 3) := by decide +kernel
theorem dX0_isForWriting_35 : decode cX0_isForWriting 35 = .ok (.iconst 0, 1) := by decide +kernel
theorem dX0_isForWriting_36 : decode cX0_isForWriting 36 = .ok (.ireturn, 1) := by decide +kernel
set_option maxRecDepth 20000 in
theorem ggX0_placeAfter_X0_givesPlace : GoodIn wsX0_placeAfter wsX0_givesPlace := goodIn_r _ [4] (by decide +kernel) (by decide +kernel)
set_option maxRecDepth 20000 in
theorem gX0_placeAfter_X0_givesPlace : GoodIn wsX0_placeAfter (va_wsS RX0 78 yX0_givesPlace wsX0_givesPlace) := goodIn_app (goodIn_of _ (by decide +kernel)) ggX0_placeAfter_X0_givesPlace
theorem dX0_placeAfter_0 : decode cX0_placeAfter 0 = .ok (.iload_n 0, 1) := by decide +kernel
theorem dX0_placeAfter_1 : decode cX0_placeAfter 1 = .ok (.invokestatic 78, 3) := by decide +kernel
theorem dX0_placeAfter_4 : decode cX0_placeAfter 4 = .ok (.ifCond .eq 5, 3) := by decide +kernel
theorem dX0_placeAfter_7 : decode cX0_placeAfter 7 = .ok (.iconst 1, 1) := by decide +kernel
theorem dX0_placeAfter_8 : decode cX0_placeAfter 8 = .ok (.ireturn, 1) := by decide +kernel
theorem dX0_placeAfter_9 : decode cX0_placeAfter 9 = .ok (.iload_n 0, 1) := by decide +kernel
theorem dX0_placeAfter_10 : decode cX0_placeAfter 10 = .ok (.lookupswitch 46 #[(10, 42), (14, 44), (23, 44), (46, 44)], 42) := by decide +kernel
theorem dX0_placeAfter_52 : decode cX0_placeAfter 52 = .ok (.iconst 2, 1) := by decide +kernel
theorem dX0_placeAfter_53 : decode cX0_placeAfter 53 = .ok (.ireturn, 1) := by decide +kernel
theorem dX0_placeAfter_54 : decode cX0_placeAfter 54 = .ok (.iconst 3, 1) := by decide +kernel
theorem dX0_placeAfter_55 : decode cX0_placeAfter 55 = .ok (.ireturn, 1) := by decide +kernel
theorem dX0_placeAfter_56 : decode cX0_placeAfter 56 = .ok (.iload_n 1, 1) := by decide +kernel
theorem dX0_placeAfter_57 : decode cX0_placeAfter 57 = .ok (.ireturn, 1) := by decide +kernel
theorem dX0_givesPlace_0 : decode cX0_givesPlace 0 = .ok (.iload_n 0, 1) := by decide +kernel
theorem dX0_givesPlace_1 : decode cX0_givesPlace 1 = .ok (.ifCond .eq 13, 3) := by decide +kernel
theorem dX0_givesPlace_4 : decode cX0_givesPlace 4 = .ok (.iload_n 0, 1) := by decide +kernel
theorem dX0_givesPlace_5 : decode cX0_givesPlace 5 = .ok (.iconst 2, 1) := by decide +kernel
theorem dX0_givesPlace_6 : decode cX0_givesPlace 6 = .ok (.if_icmp .eq 8, 3) := by decide +kernel
theorem dX0_givesPlace_9 : decode cX0_givesPlace 9 = .ok (.iload_n 0, 1) := by decide +kernel
theorem dX0_givesPlace_10 : decode cX0_givesPlace 10 = .ok (.iconst 4, 1) := by decide +kernel
theorem dX0_givesPlace_11 : decode cX0_givesPlace 11 = .ok (.if_icmp .ne 7, 3) := by decide +kernel
theorem dX0_givesPlace_14 : decode cX0_givesPlace 14 = .ok (.iconst 1, 1) := by decide +kernel
theorem dX0_givesPlace_15 : decode cX0_givesPlace 15 = .ok (.goto 4, 3) := by decide +kernel
theorem dX0_givesPlace_18 : decode cX0_givesPlace 18 = .ok (.iconst 0, 1) := by decide +kernel
theorem dX0_givesPlace_19 : decode cX0_givesPlace 19 = .ok (.ireturn, 1) := by decide +kernel
theorem dX0_isRead_0 : decode cX0_isRead 0 = .ok (.iload_n 0, 1) := by decide +kernel
theorem dX0_isRead_1 : decode cX0_isRead 1 = .ok (.ifCond .eq 8, 3) := by decide +kernel
theorem dX0_isRead_4 : decode cX0_isRead 4 = .ok (.iload_n 0, 1) := by decide +kernel
theorem dX0_isRead_5 : decode cX0_isRead 5 = .ok (.iconst 1, 1) := by decide +kernel
theorem dX0_isRead_6 : decode cX0_isRead 6 = .ok (.if_icmp .ne 7, 3) := by decide +kernel
theorem dX0_isRead_9 : decode cX0_isRead 9 = .ok (.iconst 1, 1) := by decide +kernel
theorem dX0_isRead_10 : decode cX0_isRead 10 = .ok (.goto 4, 3) := by decide +kernel
theorem dX0_isRead_13 : decode cX0_isRead 13 = .ok (.iconst 0, 1) := by decide +kernel
theorem dX0_isRead_14 : decode cX0_isRead 14 = .ok (.ireturn, 1) := by decide +kernel
theorem dX0_isWriteOrRewrite_0 : decode cX0_isWriteOrRewrite 0 = .ok (.iload_n 0, 1) := by decide +kernel
theorem dX0_isWriteOrRewrite_1 : decode cX0_isWriteOrRewrite 1 = .ok (.iconst 2, 1) := by decide +kernel
theorem dX0_isWriteOrRewrite_2 : decode cX0_isWriteOrRewrite 2 = .ok (.if_icmp .eq 8, 3) := by decide +kernel
theorem dX0_isWriteOrRewrite_5 : decode cX0_isWriteOrRewrite 5 = .ok (.iload_n 0, 1) := by decide +kernel
theorem dX0_isWriteOrRewrite_6 : decode cX0_isWriteOrRewrite 6 = .ok (.iconst 3, 1) := by decide +kernel
theorem dX0_isWriteOrRewrite_7 : decode cX0_isWriteOrRewrite 7 = .ok (.if_icmp .ne 7, 3) := by decide +kernel
theorem dX0_isWriteOrRewrite_10 : decode cX0_isWriteOrRewrite 10 = .ok (.iconst 1, 1) := by decide +kernel
theorem dX0_isWriteOrRewrite_11 : decode cX0_isWriteOrRewrite 11 = .ok (.goto 4, 3) := by decide +kernel
theorem dX0_isWriteOrRewrite_14 : decode cX0_isWriteOrRewrite 14 = .ok (.iconst 0, 1) := by decide +kernel
theorem dX0_isWriteOrRewrite_15 : decode cX0_isWriteOrRewrite 15 = .ok (.ireturn, 1) := by decide +kernel
theorem dX0_isStatus_0 : decode cX0_isStatus 0 = .ok (.iload_n 0, 1) := by decide +kernel
theorem dX0_isStatus_1 : decode cX0_isStatus 1 = .ok (.ifCond .lt 13, 3) := by decide +kernel
theorem dX0_isStatus_4 : decode cX0_isStatus 4 = .ok (.iload_n 0, 1) := by decide +kernel
theorem dX0_isStatus_5 : decode cX0_isStatus 5 = .ok (.bipush 99, 2) := by decide +kernel
theorem dX0_isStatus_7 : decode cX0_isStatus 7 = .ok (.if_icmp .gt 7, 3) := by decide +kernel
theorem dX0_isStatus_10 : decode cX0_isStatus 10 = .ok (.iconst 1, 1) := by decide +kernel
theorem dX0_isStatus_11 : decode cX0_isStatus 11 = .ok (.goto 4, 3) := by decide +kernel
theorem dX0_isStatus_14 : decode cX0_isStatus 14 = .ok (.iconst 0, 1) := by decide +kernel
theorem dX0_isStatus_15 : decode cX0_isStatus 15 = .ok (.ireturn, 1) := by decide +kernel
theorem dX1_init_0 : decode cX1_init 0 = .ok (.aload_n 0, 1) := by decide +kernel
theorem dX1_init_1 : decode cX1_init 1 = .ok (.invokespecial 1, 3) := by decide +kernel
theorem dX1_init_4 : decode cX1_init 4 = .ok (.aload_n 0, 1) := by decide +kernel
theorem dX1_init_5 : decode cX1_init 5 = .ok (.bipush 9, 2) := by decide +kernel
theorem dX1_init_7 : decode cX1_init 7 = .ok (.putfield 7, 3) := by decide +kernel
theorem dX1_init_10 : decode cX1_init 10 = .ok (.aload_n 0, 1) := by decide +kernel
theorem dX1_init_11 : decode cX1_init 11 = .ok (.bipush 7, 2) := by decide +kernel
theorem dX1_init_13 : decode cX1_init 13 = .ok (.newarray .boolean, 2) := by decide +kernel
theorem dX1_init_15 : decode cX1_init 15 = .ok (.putfield 13, 3) := by decide +kernel
theorem dX1_init_18 : decode cX1_init 18 = .ok (.aload_n 0, 1) := by decide +kernel
theorem dX1_init_19 : decode cX1_init 19 = .ok (.iload_n 1, 1) := by decide +kernel
theorem dX1_init_20 : decode cX1_init 20 = .ok (.ifCond .ge 7, 3) := by decide +kernel
theorem dX1_init_23 : decode cX1_init 23 = .ok (.iconst 0, 1) := by decide +kernel
theorem dX1_init_24 : decode cX1_init 24 = .ok (.goto 13, 3) := by decide +kernel
theorem dX1_init_27 : decode cX1_init 27 = .ok (.iload_n 1, 1) := by decide +kernel
theorem dX1_init_28 : decode cX1_init 28 = .ok (.iconst 2, 1) := by decide +kernel
theorem dX1_init_29 : decode cX1_init 29 = .ok (.if_icmp .le 7, 3) := by decide +kernel
theorem dX1_init_32 : decode cX1_init 32 = .ok (.iconst 2, 1) := by decide +kernel
theorem dX1_init_33 : decode cX1_init 33 = .ok (.goto 4, 3) := by decide +kernel
theorem dX1_init_36 : decode cX1_init 36 = .ok (.iload_n 1, 1) := by decide +kernel
theorem dX1_init_37 : decode cX1_init 37 = .ok (.putfield 17, 3) := by decide +kernel
theorem dX1_init_40 : decode cX1_init 40 = .ok (.return_, 1) := by decide +kernel
theorem dX1_mode_0 : decode cX1_mode 0 = .ok (.aload_n 0, 1) := by decide +kernel
theorem dX1_mode_1 : decode cX1_mode 1 = .ok (.iconst 0, 1) := by decide +kernel
theorem dX1_mode_2 : decode cX1_mode 2 = .ok (.putfield 20, 3) := by decide +kernel
theorem dX1_mode_5 : decode cX1_mode 5 = .ok (.aload_n 0, 1) := by decide +kernel
theorem dX1_mode_6 : decode cX1_mode 6 = .ok (.getfield 23, 3) := by decide +kernel
theorem dX1_mode_9 : decode cX1_mode 9 = .ok (.ifCond .eq 6, 3) := by decide +kernel
theorem dX1_mode_12 : decode cX1_mode 12 = .ok (.bipush (-5), 2) := by decide +kernel
theorem dX1_mode_14 : decode cX1_mode 14 = .ok (.ireturn, 1) := by decide +kernel
theorem dX1_mode_15 : decode cX1_mode 15 = .ok (.iload_n 1, 1) := by decide +kernel
theorem dX1_mode_16 : decode cX1_mode 16 = .ok (.ifCond .lt 8, 3) := by decide +kernel
theorem dX1_mode_19 : decode cX1_mode 19 = .ok (.iload_n 1, 1) := by decide +kernel
theorem dX1_mode_20 : decode cX1_mode 20 = .ok (.iconst 3, 1) := by decide +kernel
theorem dX1_mode_21 : decode cX1_mode 21 = .ok (.if_icmp .le 6, 3) := by decide +kernel
theorem dX1_mode_24 : decode cX1_mode 24 = .ok (.bipush (-4), 2) := by decide +kernel
theorem dX1_mode_26 : decode cX1_mode 26 = .ok (.ireturn, 1) := by decide +kernel
theorem dX1_mode_27 : decode cX1_mode 27 = .ok (.aload_n 0, 1) := by decide +kernel
theorem dX1_mode_28 : decode cX1_mode 28 = .ok (.getfield 27, 3) := by decide +kernel
theorem dX1_mode_31 : decode cX1_mode 31 = .ok (.istore_n 2, 1) := by decide +kernel
theorem dX1_mode_32 : decode cX1_mode 32 = .ok (.aload_n 0, 1) := by decide +kernel
theorem dX1_mode_33 : decode cX1_mode 33 = .ok (.iload_n 1, 1) := by decide +kernel
theorem dX1_mode_34 : decode cX1_mode 34 = .ok (.putfield 27, 3) := by decide +kernel
theorem dX1_mode_37 : decode cX1_mode 37 = .ok (.iload_n 2, 1) := by decide +kernel
theorem dX1_mode_38 : decode cX1_mode 38 = .ok (.ireturn, 1) := by decide +kernel
theorem dX1_open_0 : decode cX1_open 0 = .ok (.aload_n 0, 1) := by decide +kernel
theorem dX1_open_1 : decode cX1_open 1 = .ok (.iconst 0, 1) := by decide +kernel
theorem dX1_open_2 : decode cX1_open 2 = .ok (.putfield 20, 3) := by decide +kernel
theorem dX1_open_5 : decode cX1_open 5 = .ok (.aload_n 0, 1) := by decide +kernel
theorem dX1_open_6 : decode cX1_open 6 = .ok (.iload_n 1, 1) := by decide +kernel
theorem dX1_open_7 : decode cX1_open 7 = .ok (.invokevirtual 39, 3) := by decide +kernel
theorem dX1_open_10 : decode cX1_open 10 = .ok (.istore_n 2, 1) := by decide +kernel
theorem dX1_open_11 : decode cX1_open 11 = .ok (.aload_n 0, 1) := by decide +kernel
theorem dX1_open_12 : decode cX1_open 12 = .ok (.getfield 33, 3) := by decide +kernel
theorem dX1_open_15 : decode cX1_open 15 = .ok (.istore_n 3, 1) := by decide +kernel
theorem dX1_open_16 : decode cX1_open 16 = .ok (.aload_n 0, 1) := by decide +kernel
theorem dX1_open_17 : decode cX1_open 17 = .ok (.iload_n 2, 1) := by decide +kernel
theorem dX1_open_18 : decode cX1_open 18 = .ok (.bipush 7, 2) := by decide +kernel
theorem dX1_open_20 : decode cX1_open 20 = .ok (.invokevirtual 43, 3) := by decide +kernel
theorem dX1_open_23 : decode cX1_open 23 = .ok (.pop, 1) := by decide +kernel
theorem dX1_open_24 : decode cX1_open 24 = .ok (.aload_n 0, 1) := by decide +kernel
theorem dX1_open_25 : decode cX1_open 25 = .ok (.iload_n 3, 1) := by decide +kernel
theorem dX1_open_26 : decode cX1_open 26 = .ok (.putfield 33, 3) := by decide +kernel
theorem dX1_open_29 : decode cX1_open 29 = .ok (.aload_n 0, 1) := by decide +kernel
theorem dX1_open_30 : decode cX1_open 30 = .ok (.iconst 0, 1) := by decide +kernel
theorem dX1_open_31 : decode cX1_open 31 = .ok (.putfield 47, 3) := by decide +kernel
theorem dX1_open_34 : decode cX1_open 34 = .ok (.iload_n 2, 1) := by decide +kernel
theorem dX1_open_35 : decode cX1_open 35 = .ok (.ifCond .eq 10, 3) := by decide +kernel
theorem dX1_open_38 : decode cX1_open 38 = .ok (.iload_n 2, 1) := by decide +kernel
theorem dX1_open_39 : decode cX1_open 39 = .ok (.iconst 5, 1) := by decide +kernel
theorem dX1_open_40 : decode cX1_open 40 = .ok (.if_icmp .eq 5, 3) := by decide +kernel
theorem dX1_open_43 : decode cX1_open 43 = .ok (.iload_n 2, 1) := by decide +kernel
theorem dX1_open_44 : decode cX1_open 44 = .ok (.ireturn, 1) := by decide +kernel
theorem dX1_open_45 : decode cX1_open 45 = .ok (.aload_n 0, 1) := by decide +kernel
theorem dX1_open_46 : decode cX1_open 46 = .ok (.iconst 1, 1) := by decide +kernel
theorem dX1_open_47 : decode cX1_open 47 = .ok (.putfield 23, 3) := by decide +kernel
theorem dX1_open_50 : decode cX1_open 50 = .ok (.aload_n 0, 1) := by decide +kernel
theorem dX1_open_51 : decode cX1_open 51 = .ok (.iconst 0, 1) := by decide +kernel
theorem dX1_open_52 : decode cX1_open 52 = .ok (.putfield 50, 3) := by decide +kernel
theorem dX1_open_55 : decode cX1_open 55 = .ok (.aload_n 0, 1) := by decide +kernel
theorem dX1_open_56 : decode cX1_open 56 = .ok (.iload_n 2, 1) := by decide +kernel
theorem dX1_open_57 : decode cX1_open 57 = .ok (.iconst 5, 1) := by decide +kernel
theorem dX1_open_58 : decode cX1_open 58 = .ok (.if_icmp .ne 22, 3) := by decide +kernel
theorem dX1_open_61 : decode cX1_open 61 = .ok (.aload_n 0, 1) := by decide +kernel
theorem dX1_open_62 : decode cX1_open 62 = .ok (.getfield 27, 3) := by decide +kernel
theorem dX1_open_65 : decode cX1_open 65 = .ok (.ifCond .eq 11, 3) := by decide +kernel
theorem dX1_open_68 : decode cX1_open 68 = .ok (.aload_n 0, 1) := by decide +kernel
theorem dX1_open_69 : decode cX1_open 69 = .ok (.getfield 27, 3) := by decide +kernel
theorem dX1_open_72 : decode cX1_open 72 = .ok (.iconst 2, 1) := by decide +kernel
theorem dX1_open_73 : decode cX1_open 73 = .ok (.if_icmp .ne 7, 3) := by decide +kernel
theorem dX1_open_76 : decode cX1_open 76 = .ok (.iconst 1, 1) := by decide +kernel
theorem dX1_open_77 : decode cX1_open 77 = .ok (.goto 4, 3) := by decide +kernel
theorem dX1_open_80 : decode cX1_open 80 = .ok (.iconst 0, 1) := by decide +kernel
theorem dX1_open_81 : decode cX1_open 81 = .ok (.putfield 53, 3) := by decide +kernel
theorem dX1_open_84 : decode cX1_open 84 = .ok (.iload_n 2, 1) := by decide +kernel
theorem dX1_open_85 : decode cX1_open 85 = .ok (.ireturn, 1) := by decide +kernel
theorem dJ9_max_7cf53_0 : decode cJ9_max_7cf53 0 = .ok (.iload_n 0, 1) := by decide +kernel
theorem dJ9_max_7cf53_1 : decode cJ9_max_7cf53 1 = .ok (.iload_n 1, 1) := by decide +kernel
theorem dJ9_max_7cf53_2 : decode cJ9_max_7cf53 2 = .ok (.if_icmp .lt 7, 3) := by decide +kernel
theorem dJ9_max_7cf53_5 : decode cJ9_max_7cf53 5 = .ok (.iload_n 0, 1) := by decide +kernel
theorem dJ9_max_7cf53_6 : decode cJ9_max_7cf53 6 = .ok (.goto 4, 3) := by decide +kernel
theorem dJ9_max_7cf53_9 : decode cJ9_max_7cf53 9 = .ok (.iload_n 1, 1) := by decide +kernel
theorem dJ9_max_7cf53_10 : decode cJ9_max_7cf53 10 = .ok (.ireturn, 1) := by decide +kernel
theorem dJ9_min_7cf53_0 : decode cJ9_min_7cf53 0 = .ok (.iload_n 0, 1) := by decide +kernel
theorem dJ9_min_7cf53_1 : decode cJ9_min_7cf53 1 = .ok (.iload_n 1, 1) := by decide +kernel
theorem dJ9_min_7cf53_2 : decode cJ9_min_7cf53 2 = .ok (.if_icmp .gt 7, 3) := by decide +kernel
theorem dJ9_min_7cf53_5 : decode cJ9_min_7cf53 5 = .ok (.iload_n 0, 1) := by decide +kernel
theorem dJ9_min_7cf53_6 : decode cJ9_min_7cf53 6 = .ok (.goto 4, 3) := by decide +kernel
theorem dJ9_min_7cf53_9 : decode cJ9_min_7cf53 9 = .ok (.iload_n 1, 1) := by decide +kernel
theorem dJ9_min_7cf53_10 : decode cJ9_min_7cf53 10 = .ok (.ireturn, 1) := by decide +kernel
abbrev vwCl : List vw_C := [(RX0, TX0, 12), (RX1, TX1, 13)]
end
section
/-! words of this proof: what a world is behind a method; switches -/
abbrev at_W (dC : Nat → ClassId) (dI : Nat → Nat → Nat) (A : Nat → Prop) (u : va_W) (t : State) : Prop := va_P (dC, dI) vwCl u t.heap ∧ va_K (dC, dI) vwCl [] t ∧ va_D A u
theorem xx_ne {x y : Int32} {n : Int} (h : ¬ x = y) (hn : y.toInt = n) : x.toInt ≠ n := fun e => h (Int32.toInt_inj.mp (e.trans hn.symm))
def xx_no : List (Int × Int) → Int → Prop
  | [], _ => True
  | q :: r, k => q.1 ≠ k ∧ xx_no r k
theorem xx_lk {d k : Int} : ∀ {ps : List (Int × Int)}, xx_no ps k → Op.lookupswitch.offset ps d k = d
  | [], _ => rfl
  | (a, o) :: r, h => by
    rw [Op.lookupswitch.offset_cons, if_neg h.1]
    exact xx_lk h.2
end
section
/-! the class, method by method, as functions of its fields and arguments -/
def gx_X0_init_0 (p0 : Int32) : Int32 := if 0 < (if p0 < 2 then p0 else 2) then (if p0 < 2 then p0 else 2) else 0
def gx_X0_init_8 : Int32 := 9
def fx_X0_mode (a1 a2 p0 : Int32) : Int32 := if a2 = 0 then (if p0 < 0 then (-4) else (if p0 ≤ 3 then a1 else (-4))) else (-5)
def gx_X0_mode_1 (a1 a2 p0 : Int32) : Int32 := if a2 = 0 then (if p0 < 0 then a1 else (if p0 ≤ 3 then p0 else a1)) else a1
def fx_X0_optional (a2 a3 : Int32) : Int32 := if a2 = 0 then (if a3 = 0 then 0 else 1) else (-5)
def gx_X0_optional_3 (a2 a3 p0 : Int32) : Int32 := if a2 = 0 then p0 else a3
def fx_X0_count (a0 a1 a2 a4 a6 a7 a10 a11 p0 : Int32) : Int32 := if p0 = 0 then (if a2 = 0 then (-1) else a1) else (if p0 = 1 then a4 else (if p0 = 2 then (if a6 = 0 then 0 else 1) else (if p0 = 3 then a7 else (if p0 = 4 then a10 else (if p0 = 5 then a11 else (if p0 = 6 then a0 else (-1)))))))
def fx_X0_statusOfMissingFile (a1 a3 : Int32) : Int32 := if a1 = 1 then 0 else (if a3 = 0 then 35 else 5)
def fx_X0_statusOfNoRecord (a0 p0 : Int32) : Int32 := if p0 = 0 then 10 else (if p0 = 1 then 23 else (if p0 = 2 then 90 else (if p0 = 3 then (if a0 = 0 then 90 else 23) else (if p0 = 4 then 23 else (if p0 = 5 then 23 else 90)))))
def fx_X0_statusOfBarredDouble (a0 p0 : Int32) : Int32 := if p0 = 2 then (if a0 = 0 then 90 else 22) else (if p0 = 3 then (if a0 = 2 then 22 else 90) else 90)
def fx_X0_statusOfNoRoom (a0 p0 : Int32) : Int32 := if p0 = 2 then (if a0 = 0 then 34 else 24) else (if p0 = 0 then (if a0 = 1 then 14 else 90) else 90)
def gx_X0_remember_7 (p1 : Int32) : Int32 := p1
def gx_X0_remember_8 (p0 : Int32) : Int32 := p0
def gx_X0_remember_10 (a10 p0 p1 : Int32) : Int32 := if p1 ≤ 9 then (if p0 = 7 then a10 else (a10 + 1)) else a10
def gx_X0_remember_11 (a11 p1 : Int32) : Int32 := if p1 ≤ 9 then a11 else (a11 + 1)
def fx_X0_hasDeclarative (a9 p0 : Int32) : Int32 := if ((a9 >>> (p0 &&& 31)) &&& 1) = 1 then 1 else 0
def fx_X0_isForReading (a1 : Int32) : Int32 := if a1 = 0 then 1 else (if a1 = 2 then 1 else 0)
def fx_X0_isForWriting (a0 a1 : Int32) : Int32 := if a1 = 1 then 1 else (if a1 = 3 then 1 else (if a1 = 2 then (if a0 = 0 then 0 else 1) else 0))
def fx_X0_givesPlace (p0 : Int32) : Int32 := if p0 = 0 then 1 else (if p0 = 2 then 1 else (if p0 = 4 then 1 else 0))
def fx_X0_isRead (p0 : Int32) : Int32 := if p0 = 0 then 1 else (if p0 = 1 then 1 else 0)
def fx_X0_isWriteOrRewrite (p0 : Int32) : Int32 := if p0 = 2 then 1 else (if p0 = 3 then 1 else 0)
def fx_X0_isStatus (p0 : Int32) : Int32 := if p0 < 0 then 0 else (if 99 < p0 then 0 else 1)
def fx_X0_exception (p0 : Int32) : Int32 := if (fx_X0_isStatus p0) = 0 then (-1) else (if 5 < (p0 / 10) then (if (p0 / 10) = 6 then 5 else 6) else (p0 / 10))
def fx_X0_phrase (a7 a9 p0 : Int32) : Int32 := if (fx_X0_exception a7) = 0 then 0 else (if (fx_X0_exception a7) = 1 then (if p0 = 0 then (if (fx_X0_hasDeclarative a9 (fx_X0_exception a7)) = 0 then 4 else 2) else 1) else (if (fx_X0_exception a7) = 2 then (if p0 = 0 then (if (fx_X0_hasDeclarative a9 (fx_X0_exception a7)) = 0 then 4 else 2) else 1) else (if (fx_X0_hasDeclarative a9 (fx_X0_exception a7)) = 0 then 3 else 2)))
def fx_X0_declarative (a9 p0 : Int32) : Int32 := if p0 < 1 then (-4) else (if p0 ≤ 6 then (if (fx_X0_hasDeclarative a9 p0) = 0 then 0 else 1) else (-4))
def gx_X0_declarative_9 (a9 p0 p1 : Int32) : Int32 := if p0 < 1 then a9 else (if p0 ≤ 6 then (if p1 = 0 then (a9 &&& ((1 <<< (p0 &&& 31)) ^^^ (-1))) else (a9 ||| (1 <<< (p0 &&& 31)))) else a9)
def fx_X0_both (p0 p1 : Int32) : Int32 := if (fx_X0_isStatus p0) = 0 then (-1) else (if (fx_X0_isStatus p1) = 0 then (-1) else (if (fx_X0_exception p0) = (fx_X0_exception p1) then (if p1 < p0 then p1 else p0) else (if (fx_X0_exception p0) ≤ (fx_X0_exception p1) then p1 else p0)))
def fx_X0_extended (a0 a8 p0 : Int32) : Int32 := if (fx_X0_isStatus p0) = 0 then (-1) else (((100 * p0) + (10 * a0)) + a8)
def fx_X0_area (p0 : Int32) : Int32 := if (fx_X0_isStatus p0) = 0 then (-1) else (if p0 = 0 then 1 else (if p0 = 2 then 1 else (if p0 = 4 then 2 else 0)))
def fx_X0_statusOfOpening (a1 a2 a3 p0 : Int32) : Int32 := if a2 = 0 then (if p0 = 0 then 0 else (if p0 = 1 then (fx_X0_statusOfMissingFile a1 a3) else (if p0 = 2 then 37 else (if p0 = 3 then 39 else (if p0 = 4 then 38 else (if p0 = 5 then 30 else (if p0 = 6 then 61 else 90))))))) else 41
def fx_X0_statusOfWrongMode (a0 a1 p0 : Int32) : Int32 := if p0 = 0 then (if (fx_X0_isForReading a1) = 0 then 47 else (-1)) else (if p0 = 1 then (if (fx_X0_isForReading a1) = 0 then 47 else (-1)) else (if p0 = 2 then (if (fx_X0_isForWriting a0 a1) = 0 then 48 else (-1)) else (if p0 = 3 then (if a1 = 2 then (-1) else 49) else (if p0 = 4 then (if a1 = 2 then (-1) else 49) else (if p0 = 5 then (if (fx_X0_isForReading a1) = 0 then 47 else (-1)) else (-1))))))
def fx_X0_statusOfLength (p0 : Int32) : Int32 := if (fx_X0_isRead p0) = 0 then (if (fx_X0_isWriteOrRewrite p0) = 0 then 90 else 44) else 4
def fx_X0_placeAfter (p0 p1 : Int32) : Int32 := if (fx_X0_givesPlace p0) = 0 then (if p0 = 10 then 2 else (if p0 = 14 then 3 else (if p0 = 23 then 3 else (if p0 = 46 then 3 else p1)))) else 1
def fx_X0_open (a1 a2 a3 p0 : Int32) : Int32 := fx_X0_statusOfOpening a1 a2 a3 p0
def gx_X0_open_2 (a1 a2 a3 p0 : Int32) : Int32 := if (fx_X0_statusOfOpening a1 a2 a3 p0) = 0 then 1 else (if (fx_X0_statusOfOpening a1 a2 a3 p0) = 5 then 1 else a2)
def gx_X0_open_4 (a1 a2 a3 a4 p0 : Int32) : Int32 := if (fx_X0_statusOfOpening a1 a2 a3 p0) = 0 then 0 else (if (fx_X0_statusOfOpening a1 a2 a3 p0) = 5 then 0 else a4)
def gx_X0_open_5 (a1 a2 a3 a5 p0 : Int32) : Int32 := if (fx_X0_statusOfOpening a1 a2 a3 p0) = 0 then 0 else (if (fx_X0_statusOfOpening a1 a2 a3 p0) = 5 then (if (fx_X0_isForReading a1) = 0 then 0 else 1) else a5)
def gx_X0_open_6 : Int32 := 0
def gx_X0_open_7 (a1 a2 a3 p0 : Int32) : Int32 := gx_X0_remember_7 (fx_X0_statusOfOpening a1 a2 a3 p0)
def gx_X0_open_8 : Int32 := gx_X0_remember_8 7
def gx_X0_open_10 (a1 a2 a3 a10 p0 : Int32) : Int32 := gx_X0_remember_10 a10 7 (fx_X0_statusOfOpening a1 a2 a3 p0)
def gx_X0_open_11 (a1 a2 a3 a11 p0 : Int32) : Int32 := gx_X0_remember_11 a11 (fx_X0_statusOfOpening a1 a2 a3 p0)
def fx_X0_position (p0 : Int32) : Int32 := if (fx_X0_isStatus p0) = 0 then (-1) else (fx_X0_placeAfter p0 0)
def fx_X0_statusAheadOfOutcome (a0 a1 a2 a4 a6 p0 : Int32) : Int32 := if a2 = 0 then 42 else (if a0 = 0 then (if p0 = 1 then 90 else (if p0 = 4 then 90 else (if p0 = 5 then 90 else (if (fx_X0_statusOfWrongMode a0 a1 p0) = (-1) then (if p0 = 3 then (if a6 = 0 then 43 else (-1)) else (if p0 = 0 then (if a4 = 2 then 46 else (if a4 = 3 then 46 else (-1))) else (-1))) else (fx_X0_statusOfWrongMode a0 a1 p0))))) else (if (fx_X0_statusOfWrongMode a0 a1 p0) = (-1) then (if p0 = 3 then (-1) else (if p0 = 0 then (if a4 = 2 then 46 else (if a4 = 3 then 46 else (-1))) else (-1))) else (fx_X0_statusOfWrongMode a0 a1 p0)))
def fx_X0_statusByOutcome (a0 p0 p1 : Int32) : Int32 := if p1 = 0 then 0 else (if p1 = 1 then (fx_X0_statusOfNoRecord a0 p0) else (if p1 = 2 then (if a0 = 2 then (if 3 < p0 then 90 else 2) else 90) else (if p1 = 3 then (fx_X0_statusOfBarredDouble a0 p0) else (if p1 = 4 then (fx_X0_statusOfNoRoom a0 p0) else (if p1 = 5 then 30 else (if p1 = 6 then (if p0 = 6 then 90 else 51) else (if p1 = 7 then (fx_X0_statusOfLength p0) else (if p1 = 8 then (if a0 = 2 then (if (fx_X0_isWriteOrRewrite p0) = 0 then 90 else 21) else 90) else 90))))))))
def gx_X0_move_2 (a2 p0 p1 : Int32) : Int32 := if (fx_X0_isRead p0) = 0 then (if p0 = 5 then a2 else (if p0 = 6 then (if p1 = 0 then 0 else a2) else a2)) else (if p0 = 6 then (if p1 = 0 then 0 else a2) else a2)
def gx_X0_move_4 (a4 p0 p1 : Int32) : Int32 := if (fx_X0_isRead p0) = 0 then (if p0 = 5 then (fx_X0_placeAfter p1 a4) else a4) else (fx_X0_placeAfter p1 a4)
def fx_X0_statusOfAct (a0 a1 a2 a4 a5 a6 p0 p1 : Int32) : Int32 := if (fx_X0_statusAheadOfOutcome a0 a1 a2 a4 a6 p0) = (-1) then (if p0 = 0 then (if a5 = 0 then (fx_X0_statusByOutcome a0 p0 p1) else 10) else (fx_X0_statusByOutcome a0 p0 p1)) else (fx_X0_statusAheadOfOutcome a0 a1 a2 a4 a6 p0)
def fx_X0_act (a0 a1 a2 a4 a5 a6 p0 p1 : Int32) : Int32 := if p0 < 0 then (-4) else (if p0 ≤ 6 then (fx_X0_statusOfAct a0 a1 a2 a4 a5 a6 p0 p1) else (-4))
def gx_X0_act_2 (a0 a1 a2 a4 a5 a6 p0 p1 : Int32) : Int32 := if p0 < 0 then a2 else (if p0 ≤ 6 then (gx_X0_move_2 a2 p0 (fx_X0_statusOfAct a0 a1 a2 a4 a5 a6 p0 p1)) else a2)
def gx_X0_act_4 (a0 a1 a2 a4 a5 a6 p0 p1 : Int32) : Int32 := if p0 < 0 then a4 else (if p0 ≤ 6 then (gx_X0_move_4 a4 p0 (fx_X0_statusOfAct a0 a1 a2 a4 a5 a6 p0 p1)) else a4)
def gx_X0_act_5 (a5 p0 : Int32) : Int32 := if p0 < 0 then a5 else (if p0 ≤ 6 then (if p0 = 0 then 0 else a5) else a5)
def gx_X0_act_6 (a0 a1 a2 a4 a5 a6 p0 p1 : Int32) : Int32 := if p0 < 0 then a6 else (if p0 ≤ 6 then (if (fx_X0_isRead p0) = 0 then 0 else (if (fx_X0_givesPlace (fx_X0_statusOfAct a0 a1 a2 a4 a5 a6 p0 p1)) = 0 then 0 else 1)) else a6)
def gx_X0_act_7 (a0 a1 a2 a4 a5 a6 a7 p0 p1 : Int32) : Int32 := if p0 < 0 then a7 else (if p0 ≤ 6 then (gx_X0_remember_7 (fx_X0_statusOfAct a0 a1 a2 a4 a5 a6 p0 p1)) else a7)
def gx_X0_act_8 (a8 p0 : Int32) : Int32 := if p0 < 0 then a8 else (if p0 ≤ 6 then (gx_X0_remember_8 p0) else a8)
def gx_X0_act_10 (a0 a1 a2 a4 a5 a6 a10 p0 p1 : Int32) : Int32 := if p0 < 0 then a10 else (if p0 ≤ 6 then (gx_X0_remember_10 a10 p0 (fx_X0_statusOfAct a0 a1 a2 a4 a5 a6 p0 p1)) else a10)
def gx_X0_act_11 (a0 a1 a2 a4 a5 a6 a11 p0 p1 : Int32) : Int32 := if p0 < 0 then a11 else (if p0 ≤ 6 then (gx_X0_remember_11 a11 (fx_X0_statusOfAct a0 a1 a2 a4 a5 a6 p0 p1)) else a11)
end
section
set_option maxHeartbeats 4000000 in
set_option maxRecDepth 100000 in
theorem ct_X0_init (l : Launch) (dC : Nat → ClassId) (dI : Nat → Nat → Nat) (h0 : Nat) (sz : Nat) (p0 : Int32) : Met l yX0_init wsX0_init ({ frames := 1, cells := 0, slots := 0, locals := 15 }) (va_Pc [.ref h0, .int p0] (fun U => U.heap.size = sz ∧ va_P (dC, dI) vwCl [(h0, .inr (0, [.int 0, .int 0, .int 0, .int 0, .int 0, .int 0, .int 0, .int 0, .int 0, .int 0, .int 0, .int 0]))] U.heap ∧ va_K (dC, dI) vwCl [] U ∧ va_D (fun _ => True) [(h0, .inr (0, [.int 0, .int 0, .int 0, .int 0, .int 0, .int 0, .int 0, .int 0, .int 0, .int 0, .int 0, .int 0]))])) (va_Qv (fun u : va_W => u = [(h0, .inr (0, [.int (gx_X0_init_0 p0), .int 0, .int 0, .int 0, .int 0, .int 0, .int 0, .int 0, .int gx_X0_init_8, .int 0, .int 0, .int 0]))]) (at_W dC dI (va_A [(h0, .inr (0, [.int 0, .int 0, .int 0, .int 0, .int 0, .int 0, .int 0, .int 0, .int 0, .int 0, .int 0, .int 0]))] sz)) (va_A [(h0, .inr (0, [.int 0, .int 0, .int 0, .int 0, .int 0, .int 0, .int 0, .int 0, .int 0, .int 0, .int 0, .int 0]))] sz)) 0 0 (va_A [(h0, .inr (0, [.int 0, .int 0, .int 0, .int 0, .int 0, .int 0, .int 0, .int 0, .int 0, .int 0, .int 0, .int 0]))] sz) := by
  refine Met.ofW (cc := cX0_init) (maxL := 2) (ret := none) (by decide) rfl ?_
  intro p e s m args below meth c s₁ B hml hv
  obtain ⟨rfl, hsz, hP, hK, hD0⟩ := hv
  have hx := B.exec
  have hb := B.bytes
  have hr := B.returns
  have hts := atoms_spec (ws := wsX0_init) B.pre
  have hown : s.vm.findClass RX0 = some m.cls := findClass_of_methodNamed B.named
  have hlocks := B.notSynchronized
  have hin : meth.name = "<init>" := (name_of_methodNamed B.named B.method).1
  subst hsz
  have hD := hD0.self (sz := s.heap.size)
  generalize hAe : va_A [(h0, .inr (0, [.int 0, .int 0, .int 0, .int 0, .int 0, .int 0, .int 0, .int 0, .int 0, .int 0, .int 0, .int 0]))] s.heap.size = A at hD ⊢
  have hA : ∀ q : Nat, s.heap.size ≤ q → A q := fun q h => by rw [← hAe]; exact Or.inr h
  have hS : va_S A s.heap s.heap [] := va_S.rf
  have hP : va_P (dC, dI) vwCl [(h0, .inr (0, [.int 0, .int 0, .int 0, .int 0, .int 0, .int 0, .int 0, .int 0, .int 0, .int 0, .int 0, .int 0]))] s.heap := hP
  have hl := lv_entry ([.ref h0, .int p0]) (n := 2) (Nat.le_of_ble_eq_true rfl)
  rw [lg_entry_eq]
  generalize (lg_sl ([.ref h0, .int p0]) ++ List.replicate (2 - (lg_sl ([.ref h0, .int p0])).length) Slot.unset).toArray = ls at hl ⊢
  have hl : lv_has ls 2 [(0, .ref h0), (1, .int p0)] := hl
  refine lv_aload_n hx hb dX0_init_0 rfl (lv_at hl 0 rfl) ?_
  refine W.objInit hx hb hown (hts (.methodLink RX0 1 objectInit) (by decide +kernel)) (hts (.instanceMethod objectInit) (by decide +kernel)) (hts _ (List.mem_of_getElem? (i := 3) rfl)) rfl (by rw [hml]; exact hl.1) rfl dX0_init_1 (Nat.le_of_ble_eq_true rfl) (Nat.le_of_ble_eq_true rfl) ?_
  refine W.eq (g2 := F0 m 4 ls []) rfl ?_
  refine lv_aload_n hx hb dX0_init_4 rfl (lv_at hl 0 rfl) ?_
  refine lv_iconst (v := 0) hx hb dX0_init_5 (by decide) ?_
  refine va_put (D := (dC, dI)) (ci := 0) (v := .int 0) (ty := .int) (C := RX0) (T := TX0) (N := 12) hx hb hts (fun _ h => List.mem_cons_of_mem _ (List.mem_append_right _ h)) tyX0 tyX0_ok nmX0 hown hK hP hD hS 0 rfl rfl 1 (by decide) (hts (.fieldLink RX0 9 "FileStatus" "chosenMode" "I") (by decide +kernel)) (fun _ h9 => h9) rfl (by decide +kernel) rfl rfl (Nat.le_of_ble_eq_true rfl) dX0_init_6 (fun H locs hP hD hS => ?_)
  have hP : va_P (dC, dI) vwCl [(h0, .inr (0, [.int 0, .int 0, .int 0, .int 0, .int 0, .int 0, .int 0, .int 0, .int 0, .int 0, .int 0, .int 0]))] H := hP
  have hD : va_D A [(h0, .inr (0, [.int 0, .int 0, .int 0, .int 0, .int 0, .int 0, .int 0, .int 0, .int 0, .int 0, .int 0, .int 0]))] := hD
  refine lv_aload_n hx hb dX0_init_9 rfl (lv_at hl 0 rfl) ?_
  refine lv_iconst (v := 0) hx hb dX0_init_10 (by decide) ?_
  refine va_put (D := (dC, dI)) (ci := 0) (v := .int 0) (ty := .boolean) (C := RX0) (T := TX0) (N := 12) hx hb hts (fun _ h => List.mem_cons_of_mem _ (List.mem_append_right _ h)) tyX0 tyX0_ok nmX0 hown hK hP hD hS 0 rfl rfl 2 (by decide) (hts (.fieldLink RX0 13 "FileStatus" "isOpen" "Z") (by decide +kernel)) (fun _ h9 => h9) rfl (by decide +kernel) rfl rfl (Nat.le_of_ble_eq_true rfl) dX0_init_11 (fun H locs hP hD hS => ?_)
  have hP : va_P (dC, dI) vwCl [(h0, .inr (0, [.int 0, .int 0, .int 0, .int 0, .int 0, .int 0, .int 0, .int 0, .int 0, .int 0, .int 0, .int 0]))] H := hP
  have hD : va_D A [(h0, .inr (0, [.int 0, .int 0, .int 0, .int 0, .int 0, .int 0, .int 0, .int 0, .int 0, .int 0, .int 0, .int 0]))] := hD
  refine lv_aload_n hx hb dX0_init_14 rfl (lv_at hl 0 rfl) ?_
  refine lv_iconst (v := 0) hx hb dX0_init_15 (by decide) ?_
  refine va_put (D := (dC, dI)) (ci := 0) (v := .int 0) (ty := .boolean) (C := RX0) (T := TX0) (N := 12) hx hb hts (fun _ h => List.mem_cons_of_mem _ (List.mem_append_right _ h)) tyX0 tyX0_ok nmX0 hown hK hP hD hS 0 rfl rfl 3 (by decide) (hts (.fieldLink RX0 17 "FileStatus" "isOptional" "Z") (by decide +kernel)) (fun _ h9 => h9) rfl (by decide +kernel) rfl rfl (Nat.le_of_ble_eq_true rfl) dX0_init_16 (fun H locs hP hD hS => ?_)
  have hP : va_P (dC, dI) vwCl [(h0, .inr (0, [.int 0, .int 0, .int 0, .int 0, .int 0, .int 0, .int 0, .int 0, .int 0, .int 0, .int 0, .int 0]))] H := hP
  have hD : va_D A [(h0, .inr (0, [.int 0, .int 0, .int 0, .int 0, .int 0, .int 0, .int 0, .int 0, .int 0, .int 0, .int 0, .int 0]))] := hD
  refine lv_aload_n hx hb dX0_init_19 rfl (lv_at hl 0 rfl) ?_
  refine lv_iconst (v := 0) hx hb dX0_init_20 (by decide) ?_
  refine va_put (D := (dC, dI)) (ci := 0) (v := .int 0) (ty := .int) (C := RX0) (T := TX0) (N := 12) hx hb hts (fun _ h => List.mem_cons_of_mem _ (List.mem_append_right _ h)) tyX0 tyX0_ok nmX0 hown hK hP hD hS 0 rfl rfl 4 (by decide) (hts (.fieldLink RX0 20 "FileStatus" "place" "I") (by decide +kernel)) (fun _ h9 => h9) rfl (by decide +kernel) rfl rfl (Nat.le_of_ble_eq_true rfl) dX0_init_21 (fun H locs hP hD hS => ?_)
  have hP : va_P (dC, dI) vwCl [(h0, .inr (0, [.int 0, .int 0, .int 0, .int 0, .int 0, .int 0, .int 0, .int 0, .int 0, .int 0, .int 0, .int 0]))] H := hP
  have hD : va_D A [(h0, .inr (0, [.int 0, .int 0, .int 0, .int 0, .int 0, .int 0, .int 0, .int 0, .int 0, .int 0, .int 0, .int 0]))] := hD
  refine lv_aload_n hx hb dX0_init_24 rfl (lv_at hl 0 rfl) ?_
  refine lv_iconst (v := 0) hx hb dX0_init_25 (by decide) ?_
  refine va_put (D := (dC, dI)) (ci := 0) (v := .int 0) (ty := .boolean) (C := RX0) (T := TX0) (N := 12) hx hb hts (fun _ h => List.mem_cons_of_mem _ (List.mem_append_right _ h)) tyX0 tyX0_ok nmX0 hown hK hP hD hS 0 rfl rfl 5 (by decide) (hts (.fieldLink RX0 23 "FileStatus" "endIsNext" "Z") (by decide +kernel)) (fun _ h9 => h9) rfl (by decide +kernel) rfl rfl (Nat.le_of_ble_eq_true rfl) dX0_init_26 (fun H locs hP hD hS => ?_)
  have hP : va_P (dC, dI) vwCl [(h0, .inr (0, [.int 0, .int 0, .int 0, .int 0, .int 0, .int 0, .int 0, .int 0, .int 0, .int 0, .int 0, .int 0]))] H := hP
  have hD : va_D A [(h0, .inr (0, [.int 0, .int 0, .int 0, .int 0, .int 0, .int 0, .int 0, .int 0, .int 0, .int 0, .int 0, .int 0]))] := hD
  refine lv_aload_n hx hb dX0_init_29 rfl (lv_at hl 0 rfl) ?_
  refine lv_iconst (v := 0) hx hb dX0_init_30 (by decide) ?_
  refine va_put (D := (dC, dI)) (ci := 0) (v := .int 0) (ty := .boolean) (C := RX0) (T := TX0) (N := 12) hx hb hts (fun _ h => List.mem_cons_of_mem _ (List.mem_append_right _ h)) tyX0 tyX0_ok nmX0 hown hK hP hD hS 0 rfl rfl 6 (by decide) (hts (.fieldLink RX0 26 "FileStatus" "permit" "Z") (by decide +kernel)) (fun _ h9 => h9) rfl (by decide +kernel) rfl rfl (Nat.le_of_ble_eq_true rfl) dX0_init_31 (fun H locs hP hD hS => ?_)
  have hP : va_P (dC, dI) vwCl [(h0, .inr (0, [.int 0, .int 0, .int 0, .int 0, .int 0, .int 0, .int 0, .int 0, .int 0, .int 0, .int 0, .int 0]))] H := hP
  have hD : va_D A [(h0, .inr (0, [.int 0, .int 0, .int 0, .int 0, .int 0, .int 0, .int 0, .int 0, .int 0, .int 0, .int 0, .int 0]))] := hD
  refine lv_aload_n hx hb dX0_init_34 rfl (lv_at hl 0 rfl) ?_
  refine lv_iconst (v := 0) hx hb dX0_init_35 (by decide) ?_
  refine va_put (D := (dC, dI)) (ci := 0) (v := .int 0) (ty := .int) (C := RX0) (T := TX0) (N := 12) hx hb hts (fun _ h => List.mem_cons_of_mem _ (List.mem_append_right _ h)) tyX0 tyX0_ok nmX0 hown hK hP hD hS 0 rfl rfl 7 (by decide) (hts (.fieldLink RX0 29 "FileStatus" "latestStatus" "I") (by decide +kernel)) (fun _ h9 => h9) rfl (by decide +kernel) rfl rfl (Nat.le_of_ble_eq_true rfl) dX0_init_36 (fun H locs hP hD hS => ?_)
  have hP : va_P (dC, dI) vwCl [(h0, .inr (0, [.int 0, .int 0, .int 0, .int 0, .int 0, .int 0, .int 0, .int 0, .int 0, .int 0, .int 0, .int 0]))] H := hP
  have hD : va_D A [(h0, .inr (0, [.int 0, .int 0, .int 0, .int 0, .int 0, .int 0, .int 0, .int 0, .int 0, .int 0, .int 0, .int 0]))] := hD
  refine lv_aload_n hx hb dX0_init_39 rfl (lv_at hl 0 rfl) ?_
  refine lv_bipush (v := 9) hx hb dX0_init_40 (by decide) ?_
  refine va_put (D := (dC, dI)) (ci := 0) (v := .int 9) (ty := .int) (C := RX0) (T := TX0) (N := 12) hx hb hts (fun _ h => List.mem_cons_of_mem _ (List.mem_append_right _ h)) tyX0 tyX0_ok nmX0 hown hK hP hD hS 0 rfl rfl 8 (by decide) (hts (.fieldLink RX0 32 "FileStatus" "latestAct" "I") (by decide +kernel)) (fun _ h9 => h9) rfl (by decide +kernel) rfl rfl (Nat.le_of_ble_eq_true rfl) dX0_init_42 (fun H locs hP hD hS => ?_)
  have hP : va_P (dC, dI) vwCl [(h0, .inr (0, [.int 0, .int 0, .int 0, .int 0, .int 0, .int 0, .int 0, .int 0, .int 9, .int 0, .int 0, .int 0]))] H := hP
  have hD : va_D A [(h0, .inr (0, [.int 0, .int 0, .int 0, .int 0, .int 0, .int 0, .int 0, .int 0, .int 9, .int 0, .int 0, .int 0]))] := hD
  refine lv_aload_n hx hb dX0_init_45 rfl (lv_at hl 0 rfl) ?_
  refine lv_iconst (v := 0) hx hb dX0_init_46 (by decide) ?_
  refine va_put (D := (dC, dI)) (ci := 0) (v := .int 0) (ty := .int) (C := RX0) (T := TX0) (N := 12) hx hb hts (fun _ h => List.mem_cons_of_mem _ (List.mem_append_right _ h)) tyX0 tyX0_ok nmX0 hown hK hP hD hS 0 rfl rfl 9 (by decide) (hts (.fieldLink RX0 35 "FileStatus" "declaratives" "I") (by decide +kernel)) (fun _ h9 => h9) rfl (by decide +kernel) rfl rfl (Nat.le_of_ble_eq_true rfl) dX0_init_47 (fun H locs hP hD hS => ?_)
  have hP : va_P (dC, dI) vwCl [(h0, .inr (0, [.int 0, .int 0, .int 0, .int 0, .int 0, .int 0, .int 0, .int 0, .int 9, .int 0, .int 0, .int 0]))] H := hP
  have hD : va_D A [(h0, .inr (0, [.int 0, .int 0, .int 0, .int 0, .int 0, .int 0, .int 0, .int 0, .int 9, .int 0, .int 0, .int 0]))] := hD
  refine lv_aload_n hx hb dX0_init_50 rfl (lv_at hl 0 rfl) ?_
  refine lv_iconst (v := 0) hx hb dX0_init_51 (by decide) ?_
  refine va_put (D := (dC, dI)) (ci := 0) (v := .int 0) (ty := .int) (C := RX0) (T := TX0) (N := 12) hx hb hts (fun _ h => List.mem_cons_of_mem _ (List.mem_append_right _ h)) tyX0 tyX0_ok nmX0 hown hK hP hD hS 0 rfl rfl 10 (by decide) (hts (.fieldLink RX0 38 "FileStatus" "goodActs" "I") (by decide +kernel)) (fun _ h9 => h9) rfl (by decide +kernel) rfl rfl (Nat.le_of_ble_eq_true rfl) dX0_init_52 (fun H locs hP hD hS => ?_)
  have hP : va_P (dC, dI) vwCl [(h0, .inr (0, [.int 0, .int 0, .int 0, .int 0, .int 0, .int 0, .int 0, .int 0, .int 9, .int 0, .int 0, .int 0]))] H := hP
  have hD : va_D A [(h0, .inr (0, [.int 0, .int 0, .int 0, .int 0, .int 0, .int 0, .int 0, .int 0, .int 9, .int 0, .int 0, .int 0]))] := hD
  refine lv_aload_n hx hb dX0_init_55 rfl (lv_at hl 0 rfl) ?_
  refine lv_iconst (v := 0) hx hb dX0_init_56 (by decide) ?_
  refine va_put (D := (dC, dI)) (ci := 0) (v := .int 0) (ty := .int) (C := RX0) (T := TX0) (N := 12) hx hb hts (fun _ h => List.mem_cons_of_mem _ (List.mem_append_right _ h)) tyX0 tyX0_ok nmX0 hown hK hP hD hS 0 rfl rfl 11 (by decide) (hts (.fieldLink RX0 41 "FileStatus" "badActsAndOpenings" "I") (by decide +kernel)) (fun _ h9 => h9) rfl (by decide +kernel) rfl rfl (Nat.le_of_ble_eq_true rfl) dX0_init_57 (fun H locs hP hD hS => ?_)
  have hP : va_P (dC, dI) vwCl [(h0, .inr (0, [.int 0, .int 0, .int 0, .int 0, .int 0, .int 0, .int 0, .int 0, .int 9, .int 0, .int 0, .int 0]))] H := hP
  have hD : va_D A [(h0, .inr (0, [.int 0, .int 0, .int 0, .int 0, .int 0, .int 0, .int 0, .int 0, .int 9, .int 0, .int 0, .int 0]))] := hD
  refine lv_aload_n hx hb dX0_init_60 rfl (lv_at hl 0 rfl) ?_
  refine lv_iconst (v := 0) hx hb dX0_init_61 (by decide) ?_
  refine lv_iconst (v := 2) hx hb dX0_init_62 (by decide) ?_
  refine lv_iload_n hx hb dX0_init_63 rfl (lv_at hl 1 rfl) ?_
  refine va_mmin hx hb (by rw [hml]; exact hl.1.symm) hown (hts (.methodLink RX0 44 Lib.Math.min.name) (by decide +kernel)) (hts (.static Lib.Math.min.name) (by decide +kernel)) (hts (.initialized "java/lang/Math") (by decide +kernel)) (hts _ (List.mem_of_getElem? (i := 18) rfl)) (Nat.le_of_ble_eq_true rfl) (Nat.le_of_ble_eq_true rfl) (Nat.zero_le _) (Nat.zero_le _) dX0_init_64 ?_
  refine va_mmax hx hb (by rw [hml]; exact hl.1.symm) hown (hts (.methodLink RX0 50 Lib.Math.max.name) (by decide +kernel)) (hts (.static Lib.Math.max.name) (by decide +kernel)) (hts (.initialized "java/lang/Math") (by decide +kernel)) (hts _ (List.mem_of_getElem? (i := 21) rfl)) (Nat.le_of_ble_eq_true rfl) (Nat.le_of_ble_eq_true rfl) (Nat.zero_le _) (Nat.zero_le _) dX0_init_67 ?_
  refine va_putF (D := (dC, dI)) (ci := 0) (v := .int (if 0 < (if p0 < 2 then p0 else 2) then (if p0 < 2 then p0 else 2) else 0)) (ty := .int) (C := RX0) (T := TX0) (N := 12) hx hb hts (fun _ h => List.mem_cons_of_mem _ (List.mem_append_right _ h)) tyX0 tyX0_ok nmX0 hown hK hP hD hS 0 rfl rfl 0 (by decide) (hts (.fieldLink RX0 53 "FileStatus" "organisation" "I") (by decide +kernel)) (fun _ h9 => h9) rfl hin rfl (by decide +kernel) rfl rfl (Nat.le_of_ble_eq_true rfl) dX0_init_70 (fun H locs hP hD hS => ?_)
  have hP : va_P (dC, dI) vwCl [(h0, .inr (0, [.int (if 0 < (if p0 < 2 then p0 else 2) then (if p0 < 2 then p0 else 2) else 0), .int 0, .int 0, .int 0, .int 0, .int 0, .int 0, .int 0, .int 9, .int 0, .int 0, .int 0]))] H := hP
  have hD : va_D A [(h0, .inr (0, [.int (if 0 < (if p0 < 2 then p0 else 2) then (if p0 < 2 then p0 else 2) else 0), .int 0, .int 0, .int 0, .int 0, .int 0, .int 0, .int 0, .int 9, .int 0, .int 0, .int 0]))] := hD
  have hP9 := hP.sub (ws' := [(h0, .inr (0, [.int (if 0 < (if p0 < 2 then p0 else 2) then (if p0 < 2 then p0 else 2) else 0), .int 0, .int 0, .int 0, .int 0, .int 0, .int 0, .int 0, .int 9, .int 0, .int 0, .int 0]))]) [0] rfl
  have hD9 := hD.sub (ws' := [(h0, .inr (0, [.int (if 0 < (if p0 < 2 then p0 else 2) then (if p0 < 2 then p0 else 2) else 0), .int 0, .int 0, .int 0, .int 0, .int 0, .int 0, .int 0, .int 9, .int 0, .int 0, .int 0]))]) [0] (by decide) rfl
  have hK9 := hK.sub (tys' := []) [] rfl
  have eg_0 : gx_X0_init_0 p0 = if 0 < (if p0 < 2 then p0 else 2) then (if p0 < 2 then p0 else 2) else 0 := by rfl
  have eg_8 : gx_X0_init_8 = 9 := by rfl
  exact W.vret hx hb hr (fun t ht hW => ⟨⟨[(h0, .inr (0, [.int (if 0 < (if p0 < 2 then p0 else 2) then (if p0 < 2 then p0 else 2) else 0), .int 0, .int 0, .int 0, .int 0, .int 0, .int 0, .int 0, .int 9, .int 0, .int 0, .int 0]))], rfl, by rw [eg_0, eg_8], by rw [ht]; exact hP9, va_K.moved hW.alike hK9, hD9⟩, hS.F ht⟩) hS.2.2 dX0_init_73
set_option maxHeartbeats 4000000 in
set_option maxRecDepth 100000 in
theorem ct_X0_mode (l : Launch) (dC : Nat → ClassId) (dI : Nat → Nat → Nat) (h0 : Nat) (sz : Nat) (a0 a1 a2 a3 a4 a5 a6 a7 a8 a9 a10 a11 p0 : Int32) : Met l yX0_mode wsX0_mode ({ frames := 0, cells := 0, slots := 0, locals := 0 }) (va_Pc [.ref h0, .int p0] (fun U => U.heap.size = sz ∧ va_P (dC, dI) vwCl [(h0, .inr (0, [.int a0, .int a1, .int a2, .int a3, .int a4, .int a5, .int a6, .int a7, .int a8, .int a9, .int a10, .int a11]))] U.heap ∧ va_K (dC, dI) vwCl [] U ∧ va_D (fun _ => True) [(h0, .inr (0, [.int a0, .int a1, .int a2, .int a3, .int a4, .int a5, .int a6, .int a7, .int a8, .int a9, .int a10, .int a11]))])) (va_Qi (fun (r : Int32) (u : va_W) => r = fx_X0_mode a1 a2 p0 ∧ u = [(h0, .inr (0, [.int a0, .int (gx_X0_mode_1 a1 a2 p0), .int a2, .int a3, .int a4, .int a5, .int a6, .int a7, .int a8, .int a9, .int a10, .int a11]))]) (at_W dC dI (va_A [(h0, .inr (0, [.int a0, .int a1, .int a2, .int a3, .int a4, .int a5, .int a6, .int a7, .int a8, .int a9, .int a10, .int a11]))] sz)) (va_A [(h0, .inr (0, [.int a0, .int a1, .int a2, .int a3, .int a4, .int a5, .int a6, .int a7, .int a8, .int a9, .int a10, .int a11]))] sz)) 0 0 (va_A [(h0, .inr (0, [.int a0, .int a1, .int a2, .int a3, .int a4, .int a5, .int a6, .int a7, .int a8, .int a9, .int a10, .int a11]))] sz) := by
  refine Met.ofW (cc := cX0_mode) (maxL := 3) (ret := (some .int)) (by decide) rfl ?_
  intro p e s m args below meth c s₁ B hml hv
  obtain ⟨rfl, hsz, hP, hK, hD0⟩ := hv
  have hx := B.exec
  have hb := B.bytes
  have hr := B.returns
  have hts := atoms_spec (ws := wsX0_mode) B.pre
  have hown : s.vm.findClass RX0 = some m.cls := findClass_of_methodNamed B.named
  have hlocks := B.notSynchronized
  subst hsz
  have hD := hD0.self (sz := s.heap.size)
  generalize hAe : va_A [(h0, .inr (0, [.int a0, .int a1, .int a2, .int a3, .int a4, .int a5, .int a6, .int a7, .int a8, .int a9, .int a10, .int a11]))] s.heap.size = A at hD ⊢
  have hA : ∀ q : Nat, s.heap.size ≤ q → A q := fun q h => by rw [← hAe]; exact Or.inr h
  have hS : va_S A s.heap s.heap [] := va_S.rf
  have hP : va_P (dC, dI) vwCl [(h0, .inr (0, [.int a0, .int a1, .int a2, .int a3, .int a4, .int a5, .int a6, .int a7, .int a8, .int a9, .int a10, .int a11]))] s.heap := hP
  have hl := lv_entry ([.ref h0, .int p0]) (n := 3) (Nat.le_of_ble_eq_true rfl)
  rw [lg_entry_eq]
  generalize (lg_sl ([.ref h0, .int p0]) ++ List.replicate (3 - (lg_sl ([.ref h0, .int p0])).length) Slot.unset).toArray = ls at hl ⊢
  have hl : lv_has ls 3 [(0, .ref h0), (1, .int p0)] := hl
  refine lv_aload_n hx hb dX0_mode_0 rfl (lv_at hl 0 rfl) ?_
  refine va_get (D := (dC, dI)) (ci := 0) (v := .int a2) (C := RX0) (T := TX0) (N := 12) hx hb hts (fun _ h => List.mem_cons_of_mem _ (List.mem_append_right _ h)) hown hK hP 0 rfl rfl 2 (by decide) (hts (.fieldLink RX0 13 "FileStatus" "isOpen" "Z") (by decide +kernel)) (fun _ h9 => h9) rfl dX0_mode_1 ?_
  refine lv_if_eq (tgt := 10) hx hb dX0_mode_4 (by decide) (fun c_1 => ?_) (fun c_1 => ?_)
  · refine lv_iload_n hx hb dX0_mode_10 rfl (lv_at hl 1 rfl) ?_
    refine lv_if_lt (tgt := 19) hx hb dX0_mode_11 (by decide) (fun c_2 => ?_) (fun c_2 => ?_)
    · refine lv_bipush (v := (-4)) hx hb dX0_mode_19 (by decide) ?_
      have hP9 := hP.sub (ws' := [(h0, .inr (0, [.int a0, .int a1, .int a2, .int a3, .int a4, .int a5, .int a6, .int a7, .int a8, .int a9, .int a10, .int a11]))]) [0] rfl
      have hD9 := hD.sub (ws' := [(h0, .inr (0, [.int a0, .int a1, .int a2, .int a3, .int a4, .int a5, .int a6, .int a7, .int a8, .int a9, .int a10, .int a11]))]) [0] (by decide) rfl
      have hK9 := hK.sub (tys' := []) [] rfl
      have eg_1 : gx_X0_mode_1 a1 a2 p0 = a1 := by unfold gx_X0_mode_1; rw [if_pos c_1, if_pos c_2]
      have ef : fx_X0_mode a1 a2 p0 = (-4) := by unfold fx_X0_mode; rw [if_pos c_1, if_pos c_2]
      exact W.iret (v := (-4)) hx hb hr (fun t ht hW => ⟨⟨(-4), [(h0, .inr (0, [.int a0, .int a1, .int a2, .int a3, .int a4, .int a5, .int a6, .int a7, .int a8, .int a9, .int a10, .int a11]))], rfl, ⟨ef.symm, by rw [eg_1]⟩, by rw [ht]; exact hP9, va_K.moved hW.alike hK9, hD9⟩, hS.F ht⟩) hS.2.2 dX0_mode_21
    refine lv_iload_n hx hb dX0_mode_14 rfl (lv_at hl 1 rfl) ?_
    refine lv_iconst (v := 3) hx hb dX0_mode_15 (by decide) ?_
    refine lv_icmp_le (tgt := 22) hx hb dX0_mode_16 (by decide) (fun c_3 => ?_) (fun c_3 => ?_)
    · refine lv_aload_n hx hb dX0_mode_22 rfl (lv_at hl 0 rfl) ?_
      refine va_get (D := (dC, dI)) (ci := 0) (v := .int a1) (C := RX0) (T := TX0) (N := 12) hx hb hts (fun _ h => List.mem_cons_of_mem _ (List.mem_append_right _ h)) hown hK hP 0 rfl rfl 1 (by decide) (hts (.fieldLink RX0 9 "FileStatus" "chosenMode" "I") (by decide +kernel)) (fun _ h9 => h9) rfl dX0_mode_23 ?_
      refine lv_istore_n (lv' := [(2, .int a1), (0, .ref h0), (1, .int p0)]) hx hb dX0_mode_26 rfl hl (by decide) rfl (fun ls hl => ?_)
      refine lv_aload_n hx hb dX0_mode_27 rfl (lv_at hl 1 rfl) ?_
      refine lv_iload_n hx hb dX0_mode_28 rfl (lv_at hl 2 rfl) ?_
      refine va_put (D := (dC, dI)) (ci := 0) (v := .int p0) (ty := .int) (C := RX0) (T := TX0) (N := 12) hx hb hts (fun _ h => List.mem_cons_of_mem _ (List.mem_append_right _ h)) tyX0 tyX0_ok nmX0 hown hK hP hD hS 0 rfl rfl 1 (by decide) (hts (.fieldLink RX0 9 "FileStatus" "chosenMode" "I") (by decide +kernel)) (fun _ h9 => h9) rfl (by decide +kernel) rfl rfl (Nat.le_of_ble_eq_true rfl) dX0_mode_29 (fun H locs hP hD hS => ?_)
      have hP : va_P (dC, dI) vwCl [(h0, .inr (0, [.int a0, .int p0, .int a2, .int a3, .int a4, .int a5, .int a6, .int a7, .int a8, .int a9, .int a10, .int a11]))] H := hP
      have hD : va_D A [(h0, .inr (0, [.int a0, .int p0, .int a2, .int a3, .int a4, .int a5, .int a6, .int a7, .int a8, .int a9, .int a10, .int a11]))] := hD
      refine lv_iload_n hx hb dX0_mode_32 rfl (lv_at hl 0 rfl) ?_
      have hP9 := hP.sub (ws' := [(h0, .inr (0, [.int a0, .int p0, .int a2, .int a3, .int a4, .int a5, .int a6, .int a7, .int a8, .int a9, .int a10, .int a11]))]) [0] rfl
      have hD9 := hD.sub (ws' := [(h0, .inr (0, [.int a0, .int p0, .int a2, .int a3, .int a4, .int a5, .int a6, .int a7, .int a8, .int a9, .int a10, .int a11]))]) [0] (by decide) rfl
      have hK9 := hK.sub (tys' := []) [] rfl
      have eg_1 : gx_X0_mode_1 a1 a2 p0 = p0 := by unfold gx_X0_mode_1; rw [if_pos c_1, if_neg c_2, if_pos c_3]
      have ef : fx_X0_mode a1 a2 p0 = a1 := by unfold fx_X0_mode; rw [if_pos c_1, if_neg c_2, if_pos c_3]
      exact W.iret (v := a1) hx hb hr (fun t ht hW => ⟨⟨a1, [(h0, .inr (0, [.int a0, .int p0, .int a2, .int a3, .int a4, .int a5, .int a6, .int a7, .int a8, .int a9, .int a10, .int a11]))], rfl, ⟨ef.symm, by rw [eg_1]⟩, by rw [ht]; exact hP9, va_K.moved hW.alike hK9, hD9⟩, hS.F ht⟩) hS.2.2 dX0_mode_33
    refine lv_bipush (v := (-4)) hx hb dX0_mode_19 (by decide) ?_
    have hP9 := hP.sub (ws' := [(h0, .inr (0, [.int a0, .int a1, .int a2, .int a3, .int a4, .int a5, .int a6, .int a7, .int a8, .int a9, .int a10, .int a11]))]) [0] rfl
    have hD9 := hD.sub (ws' := [(h0, .inr (0, [.int a0, .int a1, .int a2, .int a3, .int a4, .int a5, .int a6, .int a7, .int a8, .int a9, .int a10, .int a11]))]) [0] (by decide) rfl
    have hK9 := hK.sub (tys' := []) [] rfl
    have eg_1 : gx_X0_mode_1 a1 a2 p0 = a1 := by unfold gx_X0_mode_1; rw [if_pos c_1, if_neg c_2, if_neg c_3]
    have ef : fx_X0_mode a1 a2 p0 = (-4) := by unfold fx_X0_mode; rw [if_pos c_1, if_neg c_2, if_neg c_3]
    exact W.iret (v := (-4)) hx hb hr (fun t ht hW => ⟨⟨(-4), [(h0, .inr (0, [.int a0, .int a1, .int a2, .int a3, .int a4, .int a5, .int a6, .int a7, .int a8, .int a9, .int a10, .int a11]))], rfl, ⟨ef.symm, by rw [eg_1]⟩, by rw [ht]; exact hP9, va_K.moved hW.alike hK9, hD9⟩, hS.F ht⟩) hS.2.2 dX0_mode_21
  refine lv_bipush (v := (-5)) hx hb dX0_mode_7 (by decide) ?_
  have hP9 := hP.sub (ws' := [(h0, .inr (0, [.int a0, .int a1, .int a2, .int a3, .int a4, .int a5, .int a6, .int a7, .int a8, .int a9, .int a10, .int a11]))]) [0] rfl
  have hD9 := hD.sub (ws' := [(h0, .inr (0, [.int a0, .int a1, .int a2, .int a3, .int a4, .int a5, .int a6, .int a7, .int a8, .int a9, .int a10, .int a11]))]) [0] (by decide) rfl
  have hK9 := hK.sub (tys' := []) [] rfl
  have eg_1 : gx_X0_mode_1 a1 a2 p0 = a1 := by unfold gx_X0_mode_1; rw [if_neg c_1]
  have ef : fx_X0_mode a1 a2 p0 = (-5) := by unfold fx_X0_mode; rw [if_neg c_1]
  exact W.iret (v := (-5)) hx hb hr (fun t ht hW => ⟨⟨(-5), [(h0, .inr (0, [.int a0, .int a1, .int a2, .int a3, .int a4, .int a5, .int a6, .int a7, .int a8, .int a9, .int a10, .int a11]))], rfl, ⟨ef.symm, by rw [eg_1]⟩, by rw [ht]; exact hP9, va_K.moved hW.alike hK9, hD9⟩, hS.F ht⟩) hS.2.2 dX0_mode_9
set_option maxHeartbeats 4000000 in
set_option maxRecDepth 100000 in
theorem ct_X0_optional (l : Launch) (dC : Nat → ClassId) (dI : Nat → Nat → Nat) (h0 : Nat) (sz : Nat) (a0 a1 a2 a3 a4 a5 a6 a7 a8 a9 a10 a11 p0 : Int32) (hb_p0 : p0 = 0 ∨ p0 = 1) : Met l yX0_optional wsX0_optional ({ frames := 0, cells := 0, slots := 0, locals := 0 }) (va_Pc [.ref h0, .int p0] (fun U => U.heap.size = sz ∧ va_P (dC, dI) vwCl [(h0, .inr (0, [.int a0, .int a1, .int a2, .int a3, .int a4, .int a5, .int a6, .int a7, .int a8, .int a9, .int a10, .int a11]))] U.heap ∧ va_K (dC, dI) vwCl [] U ∧ va_D (fun _ => True) [(h0, .inr (0, [.int a0, .int a1, .int a2, .int a3, .int a4, .int a5, .int a6, .int a7, .int a8, .int a9, .int a10, .int a11]))])) (va_Qi (fun (r : Int32) (u : va_W) => r = fx_X0_optional a2 a3 ∧ u = [(h0, .inr (0, [.int a0, .int a1, .int a2, .int (gx_X0_optional_3 a2 a3 p0), .int a4, .int a5, .int a6, .int a7, .int a8, .int a9, .int a10, .int a11]))]) (at_W dC dI (va_A [(h0, .inr (0, [.int a0, .int a1, .int a2, .int a3, .int a4, .int a5, .int a6, .int a7, .int a8, .int a9, .int a10, .int a11]))] sz)) (va_A [(h0, .inr (0, [.int a0, .int a1, .int a2, .int a3, .int a4, .int a5, .int a6, .int a7, .int a8, .int a9, .int a10, .int a11]))] sz)) 0 0 (va_A [(h0, .inr (0, [.int a0, .int a1, .int a2, .int a3, .int a4, .int a5, .int a6, .int a7, .int a8, .int a9, .int a10, .int a11]))] sz) := by
  refine Met.ofW (cc := cX0_optional) (maxL := 3) (ret := (some .int)) (by decide) rfl ?_
  intro p e s m args below meth c s₁ B hml hv
  obtain ⟨rfl, hsz, hP, hK, hD0⟩ := hv
  have hx := B.exec
  have hb := B.bytes
  have hr := B.returns
  have hts := atoms_spec (ws := wsX0_optional) B.pre
  have hown : s.vm.findClass RX0 = some m.cls := findClass_of_methodNamed B.named
  have hlocks := B.notSynchronized
  have hz_p0 : narrow .boolean (.int p0) = .int p0 ∧ fits .boolean (.int p0) = true := by rcases hb_p0 with rfl | rfl <;> exact ⟨rfl, rfl⟩
  subst hsz
  have hD := hD0.self (sz := s.heap.size)
  generalize hAe : va_A [(h0, .inr (0, [.int a0, .int a1, .int a2, .int a3, .int a4, .int a5, .int a6, .int a7, .int a8, .int a9, .int a10, .int a11]))] s.heap.size = A at hD ⊢
  have hA : ∀ q : Nat, s.heap.size ≤ q → A q := fun q h => by rw [← hAe]; exact Or.inr h
  have hS : va_S A s.heap s.heap [] := va_S.rf
  have hP : va_P (dC, dI) vwCl [(h0, .inr (0, [.int a0, .int a1, .int a2, .int a3, .int a4, .int a5, .int a6, .int a7, .int a8, .int a9, .int a10, .int a11]))] s.heap := hP
  have hl := lv_entry ([.ref h0, .int p0]) (n := 3) (Nat.le_of_ble_eq_true rfl)
  rw [lg_entry_eq]
  generalize (lg_sl ([.ref h0, .int p0]) ++ List.replicate (3 - (lg_sl ([.ref h0, .int p0])).length) Slot.unset).toArray = ls at hl ⊢
  have hl : lv_has ls 3 [(0, .ref h0), (1, .int p0)] := hl
  refine lv_aload_n hx hb dX0_optional_0 rfl (lv_at hl 0 rfl) ?_
  refine va_get (D := (dC, dI)) (ci := 0) (v := .int a2) (C := RX0) (T := TX0) (N := 12) hx hb hts (fun _ h => List.mem_cons_of_mem _ (List.mem_append_right _ h)) hown hK hP 0 rfl rfl 2 (by decide) (hts (.fieldLink RX0 13 "FileStatus" "isOpen" "Z") (by decide +kernel)) (fun _ h9 => h9) rfl dX0_optional_1 ?_
  refine lv_if_eq (tgt := 10) hx hb dX0_optional_4 (by decide) (fun c_1 => ?_) (fun c_1 => ?_)
  · refine lv_aload_n hx hb dX0_optional_10 rfl (lv_at hl 0 rfl) ?_
    refine va_get (D := (dC, dI)) (ci := 0) (v := .int a3) (C := RX0) (T := TX0) (N := 12) hx hb hts (fun _ h => List.mem_cons_of_mem _ (List.mem_append_right _ h)) hown hK hP 0 rfl rfl 3 (by decide) (hts (.fieldLink RX0 17 "FileStatus" "isOptional" "Z") (by decide +kernel)) (fun _ h9 => h9) rfl dX0_optional_11 ?_
    refine lv_if_eq (tgt := 21) hx hb dX0_optional_14 (by decide) (fun c_2 => ?_) (fun c_2 => ?_)
    · refine lv_iconst (v := 0) hx hb dX0_optional_21 (by decide) ?_
      refine lv_istore_n (lv' := [(2, .int 0), (0, .ref h0), (1, .int p0)]) hx hb dX0_optional_22 rfl hl (by decide) rfl (fun ls hl => ?_)
      refine lv_aload_n hx hb dX0_optional_23 rfl (lv_at hl 1 rfl) ?_
      refine lv_iload_n hx hb dX0_optional_24 rfl (lv_at hl 2 rfl) ?_
      refine va_put (D := (dC, dI)) (ci := 0) (v := .int p0) (ty := .boolean) (C := RX0) (T := TX0) (N := 12) hx hb hts (fun _ h => List.mem_cons_of_mem _ (List.mem_append_right _ h)) tyX0 tyX0_ok nmX0 hown hK hP hD hS 0 rfl rfl 3 (by decide) (hts (.fieldLink RX0 17 "FileStatus" "isOptional" "Z") (by decide +kernel)) (fun _ h9 => h9) rfl (by decide +kernel) hz_p0.1 hz_p0.2 (Nat.le_of_ble_eq_true rfl) dX0_optional_25 (fun H locs hP hD hS => ?_)
      have hP : va_P (dC, dI) vwCl [(h0, .inr (0, [.int a0, .int a1, .int a2, .int p0, .int a4, .int a5, .int a6, .int a7, .int a8, .int a9, .int a10, .int a11]))] H := hP
      have hD : va_D A [(h0, .inr (0, [.int a0, .int a1, .int a2, .int p0, .int a4, .int a5, .int a6, .int a7, .int a8, .int a9, .int a10, .int a11]))] := hD
      refine lv_iload_n hx hb dX0_optional_28 rfl (lv_at hl 0 rfl) ?_
      have hP9 := hP.sub (ws' := [(h0, .inr (0, [.int a0, .int a1, .int a2, .int p0, .int a4, .int a5, .int a6, .int a7, .int a8, .int a9, .int a10, .int a11]))]) [0] rfl
      have hD9 := hD.sub (ws' := [(h0, .inr (0, [.int a0, .int a1, .int a2, .int p0, .int a4, .int a5, .int a6, .int a7, .int a8, .int a9, .int a10, .int a11]))]) [0] (by decide) rfl
      have hK9 := hK.sub (tys' := []) [] rfl
      have eg_3 : gx_X0_optional_3 a2 a3 p0 = p0 := by unfold gx_X0_optional_3; rw [if_pos c_1]
      have ef : fx_X0_optional a2 a3 = 0 := by unfold fx_X0_optional; rw [if_pos c_1, if_pos c_2]
      exact W.iret (v := 0) hx hb hr (fun t ht hW => ⟨⟨0, [(h0, .inr (0, [.int a0, .int a1, .int a2, .int p0, .int a4, .int a5, .int a6, .int a7, .int a8, .int a9, .int a10, .int a11]))], rfl, ⟨ef.symm, by rw [eg_3]⟩, by rw [ht]; exact hP9, va_K.moved hW.alike hK9, hD9⟩, hS.F ht⟩) hS.2.2 dX0_optional_29
    refine lv_iconst (v := 1) hx hb dX0_optional_17 (by decide) ?_
    refine lv_goto (tgt := 22) hx hb dX0_optional_18 (by decide) ?_
    refine lv_istore_n (lv' := [(2, .int 1), (0, .ref h0), (1, .int p0)]) hx hb dX0_optional_22 rfl hl (by decide) rfl (fun ls hl => ?_)
    refine lv_aload_n hx hb dX0_optional_23 rfl (lv_at hl 1 rfl) ?_
    refine lv_iload_n hx hb dX0_optional_24 rfl (lv_at hl 2 rfl) ?_
    refine va_put (D := (dC, dI)) (ci := 0) (v := .int p0) (ty := .boolean) (C := RX0) (T := TX0) (N := 12) hx hb hts (fun _ h => List.mem_cons_of_mem _ (List.mem_append_right _ h)) tyX0 tyX0_ok nmX0 hown hK hP hD hS 0 rfl rfl 3 (by decide) (hts (.fieldLink RX0 17 "FileStatus" "isOptional" "Z") (by decide +kernel)) (fun _ h9 => h9) rfl (by decide +kernel) hz_p0.1 hz_p0.2 (Nat.le_of_ble_eq_true rfl) dX0_optional_25 (fun H locs hP hD hS => ?_)
    have hP : va_P (dC, dI) vwCl [(h0, .inr (0, [.int a0, .int a1, .int a2, .int p0, .int a4, .int a5, .int a6, .int a7, .int a8, .int a9, .int a10, .int a11]))] H := hP
    have hD : va_D A [(h0, .inr (0, [.int a0, .int a1, .int a2, .int p0, .int a4, .int a5, .int a6, .int a7, .int a8, .int a9, .int a10, .int a11]))] := hD
    refine lv_iload_n hx hb dX0_optional_28 rfl (lv_at hl 0 rfl) ?_
    have hP9 := hP.sub (ws' := [(h0, .inr (0, [.int a0, .int a1, .int a2, .int p0, .int a4, .int a5, .int a6, .int a7, .int a8, .int a9, .int a10, .int a11]))]) [0] rfl
    have hD9 := hD.sub (ws' := [(h0, .inr (0, [.int a0, .int a1, .int a2, .int p0, .int a4, .int a5, .int a6, .int a7, .int a8, .int a9, .int a10, .int a11]))]) [0] (by decide) rfl
    have hK9 := hK.sub (tys' := []) [] rfl
    have eg_3 : gx_X0_optional_3 a2 a3 p0 = p0 := by unfold gx_X0_optional_3; rw [if_pos c_1]
    have ef : fx_X0_optional a2 a3 = 1 := by unfold fx_X0_optional; rw [if_pos c_1, if_neg c_2]
    exact W.iret (v := 1) hx hb hr (fun t ht hW => ⟨⟨1, [(h0, .inr (0, [.int a0, .int a1, .int a2, .int p0, .int a4, .int a5, .int a6, .int a7, .int a8, .int a9, .int a10, .int a11]))], rfl, ⟨ef.symm, by rw [eg_3]⟩, by rw [ht]; exact hP9, va_K.moved hW.alike hK9, hD9⟩, hS.F ht⟩) hS.2.2 dX0_optional_29
  refine lv_bipush (v := (-5)) hx hb dX0_optional_7 (by decide) ?_
  have hP9 := hP.sub (ws' := [(h0, .inr (0, [.int a0, .int a1, .int a2, .int a3, .int a4, .int a5, .int a6, .int a7, .int a8, .int a9, .int a10, .int a11]))]) [0] rfl
  have hD9 := hD.sub (ws' := [(h0, .inr (0, [.int a0, .int a1, .int a2, .int a3, .int a4, .int a5, .int a6, .int a7, .int a8, .int a9, .int a10, .int a11]))]) [0] (by decide) rfl
  have hK9 := hK.sub (tys' := []) [] rfl
  have eg_3 : gx_X0_optional_3 a2 a3 p0 = a3 := by unfold gx_X0_optional_3; rw [if_neg c_1]
  have ef : fx_X0_optional a2 a3 = (-5) := by unfold fx_X0_optional; rw [if_neg c_1]
  exact W.iret (v := (-5)) hx hb hr (fun t ht hW => ⟨⟨(-5), [(h0, .inr (0, [.int a0, .int a1, .int a2, .int a3, .int a4, .int a5, .int a6, .int a7, .int a8, .int a9, .int a10, .int a11]))], rfl, ⟨ef.symm, by rw [eg_3]⟩, by rw [ht]; exact hP9, va_K.moved hW.alike hK9, hD9⟩, hS.F ht⟩) hS.2.2 dX0_optional_9
set_option maxHeartbeats 4000000 in
set_option maxRecDepth 100000 in
theorem ct_X0_count (l : Launch) (dC : Nat → ClassId) (dI : Nat → Nat → Nat) (h0 : Nat) (sz : Nat) (a0 a1 a2 a3 a4 a5 a6 a7 a8 a9 a10 a11 p0 : Int32) : Met l yX0_count wsX0_count ({ frames := 0, cells := 0, slots := 0, locals := 0 }) (va_Pc [.ref h0, .int p0] (fun U => U.heap.size = sz ∧ va_P (dC, dI) vwCl [(h0, .inr (0, [.int a0, .int a1, .int a2, .int a3, .int a4, .int a5, .int a6, .int a7, .int a8, .int a9, .int a10, .int a11]))] U.heap ∧ va_K (dC, dI) vwCl [] U ∧ va_D (fun _ => True) [(h0, .inr (0, [.int a0, .int a1, .int a2, .int a3, .int a4, .int a5, .int a6, .int a7, .int a8, .int a9, .int a10, .int a11]))])) (va_Qi (fun (r : Int32) (u : va_W) => r = fx_X0_count a0 a1 a2 a4 a6 a7 a10 a11 p0 ∧ u = [(h0, .inr (0, [.int a0, .int a1, .int a2, .int a3, .int a4, .int a5, .int a6, .int a7, .int a8, .int a9, .int a10, .int a11]))]) (at_W dC dI (va_A [(h0, .inr (0, [.int a0, .int a1, .int a2, .int a3, .int a4, .int a5, .int a6, .int a7, .int a8, .int a9, .int a10, .int a11]))] sz)) (va_A [(h0, .inr (0, [.int a0, .int a1, .int a2, .int a3, .int a4, .int a5, .int a6, .int a7, .int a8, .int a9, .int a10, .int a11]))] sz)) 0 0 (va_A [(h0, .inr (0, [.int a0, .int a1, .int a2, .int a3, .int a4, .int a5, .int a6, .int a7, .int a8, .int a9, .int a10, .int a11]))] sz) := by
  refine Met.ofW (cc := cX0_count) (maxL := 2) (ret := (some .int)) (by decide) rfl ?_
  intro p e s m args below meth c s₁ B hml hv
  obtain ⟨rfl, hsz, hP, hK, hD0⟩ := hv
  have hx := B.exec
  have hb := B.bytes
  have hr := B.returns
  have hts := atoms_spec (ws := wsX0_count) B.pre
  have hown : s.vm.findClass RX0 = some m.cls := findClass_of_methodNamed B.named
  have hlocks := B.notSynchronized
  subst hsz
  have hD := hD0.self (sz := s.heap.size)
  generalize hAe : va_A [(h0, .inr (0, [.int a0, .int a1, .int a2, .int a3, .int a4, .int a5, .int a6, .int a7, .int a8, .int a9, .int a10, .int a11]))] s.heap.size = A at hD ⊢
  have hA : ∀ q : Nat, s.heap.size ≤ q → A q := fun q h => by rw [← hAe]; exact Or.inr h
  have hS : va_S A s.heap s.heap [] := va_S.rf
  have hP : va_P (dC, dI) vwCl [(h0, .inr (0, [.int a0, .int a1, .int a2, .int a3, .int a4, .int a5, .int a6, .int a7, .int a8, .int a9, .int a10, .int a11]))] s.heap := hP
  have hl := lv_entry ([.ref h0, .int p0]) (n := 2) (Nat.le_of_ble_eq_true rfl)
  rw [lg_entry_eq]
  generalize (lg_sl ([.ref h0, .int p0]) ++ List.replicate (2 - (lg_sl ([.ref h0, .int p0])).length) Slot.unset).toArray = ls at hl ⊢
  have hl : lv_has ls 2 [(0, .ref h0), (1, .int p0)] := hl
  refine lv_iload_n hx hb dX0_count_0 rfl (lv_at hl 1 rfl) ?_
  by_cases c_1 : p0 = 0
  · refine lv_tableIn (off := 43) (tgt := 44) hx hb dX0_count_1 (by rw [c_1]; decide) (by rw [c_1]; decide) (by rw [c_1]; rfl) (by decide) ?_
    refine lv_aload_n hx hb dX0_count_44 rfl (lv_at hl 0 rfl) ?_
    refine va_get (D := (dC, dI)) (ci := 0) (v := .int a2) (C := RX0) (T := TX0) (N := 12) hx hb hts (fun _ h => List.mem_cons_of_mem _ (List.mem_append_right _ h)) hown hK hP 0 rfl rfl 2 (by decide) (hts (.fieldLink RX0 13 "FileStatus" "isOpen" "Z") (by decide +kernel)) (fun _ h9 => h9) rfl dX0_count_45 ?_
    refine lv_if_eq (tgt := 58) hx hb dX0_count_48 (by decide) (fun c_2 => ?_) (fun c_2 => ?_)
    · refine lv_iconst (v := (-1)) hx hb dX0_count_58 (by decide) ?_
      have hP9 := hP.sub (ws' := [(h0, .inr (0, [.int a0, .int a1, .int a2, .int a3, .int a4, .int a5, .int a6, .int a7, .int a8, .int a9, .int a10, .int a11]))]) [0] rfl
      have hD9 := hD.sub (ws' := [(h0, .inr (0, [.int a0, .int a1, .int a2, .int a3, .int a4, .int a5, .int a6, .int a7, .int a8, .int a9, .int a10, .int a11]))]) [0] (by decide) rfl
      have hK9 := hK.sub (tys' := []) [] rfl
      have ef : fx_X0_count a0 a1 a2 a4 a6 a7 a10 a11 p0 = (-1) := by unfold fx_X0_count; rw [if_pos c_1, if_pos c_2]
      exact W.iret (v := (-1)) hx hb hr (fun t ht hW => ⟨⟨(-1), [(h0, .inr (0, [.int a0, .int a1, .int a2, .int a3, .int a4, .int a5, .int a6, .int a7, .int a8, .int a9, .int a10, .int a11]))], rfl, ⟨ef.symm, rfl⟩, by rw [ht]; exact hP9, va_K.moved hW.alike hK9, hD9⟩, hS.F ht⟩) hS.2.2 dX0_count_59
    refine lv_aload_n hx hb dX0_count_51 rfl (lv_at hl 0 rfl) ?_
    refine va_get (D := (dC, dI)) (ci := 0) (v := .int a1) (C := RX0) (T := TX0) (N := 12) hx hb hts (fun _ h => List.mem_cons_of_mem _ (List.mem_append_right _ h)) hown hK hP 0 rfl rfl 1 (by decide) (hts (.fieldLink RX0 9 "FileStatus" "chosenMode" "I") (by decide +kernel)) (fun _ h9 => h9) rfl dX0_count_52 ?_
    refine lv_goto (tgt := 59) hx hb dX0_count_55 (by decide) ?_
    have hP9 := hP.sub (ws' := [(h0, .inr (0, [.int a0, .int a1, .int a2, .int a3, .int a4, .int a5, .int a6, .int a7, .int a8, .int a9, .int a10, .int a11]))]) [0] rfl
    have hD9 := hD.sub (ws' := [(h0, .inr (0, [.int a0, .int a1, .int a2, .int a3, .int a4, .int a5, .int a6, .int a7, .int a8, .int a9, .int a10, .int a11]))]) [0] (by decide) rfl
    have hK9 := hK.sub (tys' := []) [] rfl
    have ef : fx_X0_count a0 a1 a2 a4 a6 a7 a10 a11 p0 = a1 := by unfold fx_X0_count; rw [if_pos c_1, if_neg c_2]
    exact W.iret (v := a1) hx hb hr (fun t ht hW => ⟨⟨a1, [(h0, .inr (0, [.int a0, .int a1, .int a2, .int a3, .int a4, .int a5, .int a6, .int a7, .int a8, .int a9, .int a10, .int a11]))], rfl, ⟨ef.symm, rfl⟩, by rw [ht]; exact hP9, va_K.moved hW.alike hK9, hD9⟩, hS.F ht⟩) hS.2.2 dX0_count_59
  by_cases c_3 : p0 = 1
  · refine lv_tableIn (off := 59) (tgt := 60) hx hb dX0_count_1 (by rw [c_3]; decide) (by rw [c_3]; decide) (by rw [c_3]; rfl) (by decide) ?_
    refine lv_aload_n hx hb dX0_count_60 rfl (lv_at hl 0 rfl) ?_
    refine va_get (D := (dC, dI)) (ci := 0) (v := .int a4) (C := RX0) (T := TX0) (N := 12) hx hb hts (fun _ h => List.mem_cons_of_mem _ (List.mem_append_right _ h)) hown hK hP 0 rfl rfl 4 (by decide) (hts (.fieldLink RX0 20 "FileStatus" "place" "I") (by decide +kernel)) (fun _ h9 => h9) rfl dX0_count_61 ?_
    have hP9 := hP.sub (ws' := [(h0, .inr (0, [.int a0, .int a1, .int a2, .int a3, .int a4, .int a5, .int a6, .int a7, .int a8, .int a9, .int a10, .int a11]))]) [0] rfl
    have hD9 := hD.sub (ws' := [(h0, .inr (0, [.int a0, .int a1, .int a2, .int a3, .int a4, .int a5, .int a6, .int a7, .int a8, .int a9, .int a10, .int a11]))]) [0] (by decide) rfl
    have hK9 := hK.sub (tys' := []) [] rfl
    have ef : fx_X0_count a0 a1 a2 a4 a6 a7 a10 a11 p0 = a4 := by unfold fx_X0_count; rw [if_neg c_1, if_pos c_3]
    exact W.iret (v := a4) hx hb hr (fun t ht hW => ⟨⟨a4, [(h0, .inr (0, [.int a0, .int a1, .int a2, .int a3, .int a4, .int a5, .int a6, .int a7, .int a8, .int a9, .int a10, .int a11]))], rfl, ⟨ef.symm, rfl⟩, by rw [ht]; exact hP9, va_K.moved hW.alike hK9, hD9⟩, hS.F ht⟩) hS.2.2 dX0_count_64
  by_cases c_4 : p0 = 2
  · refine lv_tableIn (off := 64) (tgt := 65) hx hb dX0_count_1 (by rw [c_4]; decide) (by rw [c_4]; decide) (by rw [c_4]; rfl) (by decide) ?_
    refine lv_aload_n hx hb dX0_count_65 rfl (lv_at hl 0 rfl) ?_
    refine va_get (D := (dC, dI)) (ci := 0) (v := .int a6) (C := RX0) (T := TX0) (N := 12) hx hb hts (fun _ h => List.mem_cons_of_mem _ (List.mem_append_right _ h)) hown hK hP 0 rfl rfl 6 (by decide) (hts (.fieldLink RX0 26 "FileStatus" "permit" "Z") (by decide +kernel)) (fun _ h9 => h9) rfl dX0_count_66 ?_
    refine lv_if_eq (tgt := 76) hx hb dX0_count_69 (by decide) (fun c_5 => ?_) (fun c_5 => ?_)
    · refine lv_iconst (v := 0) hx hb dX0_count_76 (by decide) ?_
      have hP9 := hP.sub (ws' := [(h0, .inr (0, [.int a0, .int a1, .int a2, .int a3, .int a4, .int a5, .int a6, .int a7, .int a8, .int a9, .int a10, .int a11]))]) [0] rfl
      have hD9 := hD.sub (ws' := [(h0, .inr (0, [.int a0, .int a1, .int a2, .int a3, .int a4, .int a5, .int a6, .int a7, .int a8, .int a9, .int a10, .int a11]))]) [0] (by decide) rfl
      have hK9 := hK.sub (tys' := []) [] rfl
      have ef : fx_X0_count a0 a1 a2 a4 a6 a7 a10 a11 p0 = 0 := by unfold fx_X0_count; rw [if_neg c_1, if_neg c_3, if_pos c_4, if_pos c_5]
      exact W.iret (v := 0) hx hb hr (fun t ht hW => ⟨⟨0, [(h0, .inr (0, [.int a0, .int a1, .int a2, .int a3, .int a4, .int a5, .int a6, .int a7, .int a8, .int a9, .int a10, .int a11]))], rfl, ⟨ef.symm, rfl⟩, by rw [ht]; exact hP9, va_K.moved hW.alike hK9, hD9⟩, hS.F ht⟩) hS.2.2 dX0_count_77
    refine lv_iconst (v := 1) hx hb dX0_count_72 (by decide) ?_
    refine lv_goto (tgt := 77) hx hb dX0_count_73 (by decide) ?_
    have hP9 := hP.sub (ws' := [(h0, .inr (0, [.int a0, .int a1, .int a2, .int a3, .int a4, .int a5, .int a6, .int a7, .int a8, .int a9, .int a10, .int a11]))]) [0] rfl
    have hD9 := hD.sub (ws' := [(h0, .inr (0, [.int a0, .int a1, .int a2, .int a3, .int a4, .int a5, .int a6, .int a7, .int a8, .int a9, .int a10, .int a11]))]) [0] (by decide) rfl
    have hK9 := hK.sub (tys' := []) [] rfl
    have ef : fx_X0_count a0 a1 a2 a4 a6 a7 a10 a11 p0 = 1 := by unfold fx_X0_count; rw [if_neg c_1, if_neg c_3, if_pos c_4, if_neg c_5]
    exact W.iret (v := 1) hx hb hr (fun t ht hW => ⟨⟨1, [(h0, .inr (0, [.int a0, .int a1, .int a2, .int a3, .int a4, .int a5, .int a6, .int a7, .int a8, .int a9, .int a10, .int a11]))], rfl, ⟨ef.symm, rfl⟩, by rw [ht]; exact hP9, va_K.moved hW.alike hK9, hD9⟩, hS.F ht⟩) hS.2.2 dX0_count_77
  by_cases c_6 : p0 = 3
  · refine lv_tableIn (off := 77) (tgt := 78) hx hb dX0_count_1 (by rw [c_6]; decide) (by rw [c_6]; decide) (by rw [c_6]; rfl) (by decide) ?_
    refine lv_aload_n hx hb dX0_count_78 rfl (lv_at hl 0 rfl) ?_
    refine va_get (D := (dC, dI)) (ci := 0) (v := .int a7) (C := RX0) (T := TX0) (N := 12) hx hb hts (fun _ h => List.mem_cons_of_mem _ (List.mem_append_right _ h)) hown hK hP 0 rfl rfl 7 (by decide) (hts (.fieldLink RX0 29 "FileStatus" "latestStatus" "I") (by decide +kernel)) (fun _ h9 => h9) rfl dX0_count_79 ?_
    have hP9 := hP.sub (ws' := [(h0, .inr (0, [.int a0, .int a1, .int a2, .int a3, .int a4, .int a5, .int a6, .int a7, .int a8, .int a9, .int a10, .int a11]))]) [0] rfl
    have hD9 := hD.sub (ws' := [(h0, .inr (0, [.int a0, .int a1, .int a2, .int a3, .int a4, .int a5, .int a6, .int a7, .int a8, .int a9, .int a10, .int a11]))]) [0] (by decide) rfl
    have hK9 := hK.sub (tys' := []) [] rfl
    have ef : fx_X0_count a0 a1 a2 a4 a6 a7 a10 a11 p0 = a7 := by unfold fx_X0_count; rw [if_neg c_1, if_neg c_3, if_neg c_4, if_pos c_6]
    exact W.iret (v := a7) hx hb hr (fun t ht hW => ⟨⟨a7, [(h0, .inr (0, [.int a0, .int a1, .int a2, .int a3, .int a4, .int a5, .int a6, .int a7, .int a8, .int a9, .int a10, .int a11]))], rfl, ⟨ef.symm, rfl⟩, by rw [ht]; exact hP9, va_K.moved hW.alike hK9, hD9⟩, hS.F ht⟩) hS.2.2 dX0_count_82
  by_cases c_7 : p0 = 4
  · refine lv_tableIn (off := 82) (tgt := 83) hx hb dX0_count_1 (by rw [c_7]; decide) (by rw [c_7]; decide) (by rw [c_7]; rfl) (by decide) ?_
    refine lv_aload_n hx hb dX0_count_83 rfl (lv_at hl 0 rfl) ?_
    refine va_get (D := (dC, dI)) (ci := 0) (v := .int a10) (C := RX0) (T := TX0) (N := 12) hx hb hts (fun _ h => List.mem_cons_of_mem _ (List.mem_append_right _ h)) hown hK hP 0 rfl rfl 10 (by decide) (hts (.fieldLink RX0 38 "FileStatus" "goodActs" "I") (by decide +kernel)) (fun _ h9 => h9) rfl dX0_count_84 ?_
    have hP9 := hP.sub (ws' := [(h0, .inr (0, [.int a0, .int a1, .int a2, .int a3, .int a4, .int a5, .int a6, .int a7, .int a8, .int a9, .int a10, .int a11]))]) [0] rfl
    have hD9 := hD.sub (ws' := [(h0, .inr (0, [.int a0, .int a1, .int a2, .int a3, .int a4, .int a5, .int a6, .int a7, .int a8, .int a9, .int a10, .int a11]))]) [0] (by decide) rfl
    have hK9 := hK.sub (tys' := []) [] rfl
    have ef : fx_X0_count a0 a1 a2 a4 a6 a7 a10 a11 p0 = a10 := by unfold fx_X0_count; rw [if_neg c_1, if_neg c_3, if_neg c_4, if_neg c_6, if_pos c_7]
    exact W.iret (v := a10) hx hb hr (fun t ht hW => ⟨⟨a10, [(h0, .inr (0, [.int a0, .int a1, .int a2, .int a3, .int a4, .int a5, .int a6, .int a7, .int a8, .int a9, .int a10, .int a11]))], rfl, ⟨ef.symm, rfl⟩, by rw [ht]; exact hP9, va_K.moved hW.alike hK9, hD9⟩, hS.F ht⟩) hS.2.2 dX0_count_87
  by_cases c_8 : p0 = 5
  · refine lv_tableIn (off := 87) (tgt := 88) hx hb dX0_count_1 (by rw [c_8]; decide) (by rw [c_8]; decide) (by rw [c_8]; rfl) (by decide) ?_
    refine lv_aload_n hx hb dX0_count_88 rfl (lv_at hl 0 rfl) ?_
    refine va_get (D := (dC, dI)) (ci := 0) (v := .int a11) (C := RX0) (T := TX0) (N := 12) hx hb hts (fun _ h => List.mem_cons_of_mem _ (List.mem_append_right _ h)) hown hK hP 0 rfl rfl 11 (by decide) (hts (.fieldLink RX0 41 "FileStatus" "badActsAndOpenings" "I") (by decide +kernel)) (fun _ h9 => h9) rfl dX0_count_89 ?_
    have hP9 := hP.sub (ws' := [(h0, .inr (0, [.int a0, .int a1, .int a2, .int a3, .int a4, .int a5, .int a6, .int a7, .int a8, .int a9, .int a10, .int a11]))]) [0] rfl
    have hD9 := hD.sub (ws' := [(h0, .inr (0, [.int a0, .int a1, .int a2, .int a3, .int a4, .int a5, .int a6, .int a7, .int a8, .int a9, .int a10, .int a11]))]) [0] (by decide) rfl
    have hK9 := hK.sub (tys' := []) [] rfl
    have ef : fx_X0_count a0 a1 a2 a4 a6 a7 a10 a11 p0 = a11 := by unfold fx_X0_count; rw [if_neg c_1, if_neg c_3, if_neg c_4, if_neg c_6, if_neg c_7, if_pos c_8]
    exact W.iret (v := a11) hx hb hr (fun t ht hW => ⟨⟨a11, [(h0, .inr (0, [.int a0, .int a1, .int a2, .int a3, .int a4, .int a5, .int a6, .int a7, .int a8, .int a9, .int a10, .int a11]))], rfl, ⟨ef.symm, rfl⟩, by rw [ht]; exact hP9, va_K.moved hW.alike hK9, hD9⟩, hS.F ht⟩) hS.2.2 dX0_count_92
  by_cases c_9 : p0 = 6
  · refine lv_tableIn (off := 92) (tgt := 93) hx hb dX0_count_1 (by rw [c_9]; decide) (by rw [c_9]; decide) (by rw [c_9]; rfl) (by decide) ?_
    refine lv_aload_n hx hb dX0_count_93 rfl (lv_at hl 0 rfl) ?_
    refine va_get (D := (dC, dI)) (ci := 0) (v := .int a0) (C := RX0) (T := TX0) (N := 12) hx hb hts (fun _ h => List.mem_cons_of_mem _ (List.mem_append_right _ h)) hown hK hP 0 rfl rfl 0 (by decide) (hts (.fieldLink RX0 53 "FileStatus" "organisation" "I") (by decide +kernel)) (fun _ h9 => h9) rfl dX0_count_94 ?_
    have hP9 := hP.sub (ws' := [(h0, .inr (0, [.int a0, .int a1, .int a2, .int a3, .int a4, .int a5, .int a6, .int a7, .int a8, .int a9, .int a10, .int a11]))]) [0] rfl
    have hD9 := hD.sub (ws' := [(h0, .inr (0, [.int a0, .int a1, .int a2, .int a3, .int a4, .int a5, .int a6, .int a7, .int a8, .int a9, .int a10, .int a11]))]) [0] (by decide) rfl
    have hK9 := hK.sub (tys' := []) [] rfl
    have ef : fx_X0_count a0 a1 a2 a4 a6 a7 a10 a11 p0 = a0 := by unfold fx_X0_count; rw [if_neg c_1, if_neg c_3, if_neg c_4, if_neg c_6, if_neg c_7, if_neg c_8, if_pos c_9]
    exact W.iret (v := a0) hx hb hr (fun t ht hW => ⟨⟨a0, [(h0, .inr (0, [.int a0, .int a1, .int a2, .int a3, .int a4, .int a5, .int a6, .int a7, .int a8, .int a9, .int a10, .int a11]))], rfl, ⟨ef.symm, rfl⟩, by rw [ht]; exact hP9, va_K.moved hW.alike hK9, hD9⟩, hS.F ht⟩) hS.2.2 dX0_count_97
  refine lv_tableOut (tgt := 98) hx hb dX0_count_1 (by have n_0 : (p0 : Int32).toInt ≠ 0 := xx_ne c_1 (by decide); have n_1 : (p0 : Int32).toInt ≠ 1 := xx_ne c_3 (by decide); have n_2 : (p0 : Int32).toInt ≠ 2 := xx_ne c_4 (by decide); have n_3 : (p0 : Int32).toInt ≠ 3 := xx_ne c_6 (by decide); have n_4 : (p0 : Int32).toInt ≠ 4 := xx_ne c_7 (by decide); have n_5 : (p0 : Int32).toInt ≠ 5 := xx_ne c_8 (by decide); have n_6 : (p0 : Int32).toInt ≠ 6 := xx_ne c_9 (by decide); omega) (by decide) ?_
  refine lv_iconst (v := (-1)) hx hb dX0_count_98 (by decide) ?_
  have hP9 := hP.sub (ws' := [(h0, .inr (0, [.int a0, .int a1, .int a2, .int a3, .int a4, .int a5, .int a6, .int a7, .int a8, .int a9, .int a10, .int a11]))]) [0] rfl
  have hD9 := hD.sub (ws' := [(h0, .inr (0, [.int a0, .int a1, .int a2, .int a3, .int a4, .int a5, .int a6, .int a7, .int a8, .int a9, .int a10, .int a11]))]) [0] (by decide) rfl
  have hK9 := hK.sub (tys' := []) [] rfl
  have ef : fx_X0_count a0 a1 a2 a4 a6 a7 a10 a11 p0 = (-1) := by unfold fx_X0_count; rw [if_neg c_1, if_neg c_3, if_neg c_4, if_neg c_6, if_neg c_7, if_neg c_8, if_neg c_9]
  exact W.iret (v := (-1)) hx hb hr (fun t ht hW => ⟨⟨(-1), [(h0, .inr (0, [.int a0, .int a1, .int a2, .int a3, .int a4, .int a5, .int a6, .int a7, .int a8, .int a9, .int a10, .int a11]))], rfl, ⟨ef.symm, rfl⟩, by rw [ht]; exact hP9, va_K.moved hW.alike hK9, hD9⟩, hS.F ht⟩) hS.2.2 dX0_count_99
set_option maxHeartbeats 4000000 in
set_option maxRecDepth 100000 in
theorem ct_X0_statusOfMissingFile (l : Launch) (dC : Nat → ClassId) (dI : Nat → Nat → Nat) (h0 : Nat) (sz : Nat) (a0 a1 a2 a3 a4 a5 a6 a7 a8 a9 a10 a11 : Int32) : Met l yX0_statusOfMissingFile wsX0_statusOfMissingFile ({ frames := 0, cells := 0, slots := 0, locals := 0 }) (va_Pc [.ref h0] (fun U => U.heap.size = sz ∧ va_P (dC, dI) vwCl [(h0, .inr (0, [.int a0, .int a1, .int a2, .int a3, .int a4, .int a5, .int a6, .int a7, .int a8, .int a9, .int a10, .int a11]))] U.heap ∧ va_K (dC, dI) vwCl [] U ∧ va_D (fun _ => True) [(h0, .inr (0, [.int a0, .int a1, .int a2, .int a3, .int a4, .int a5, .int a6, .int a7, .int a8, .int a9, .int a10, .int a11]))])) (va_Qi (fun (r : Int32) (u : va_W) => r = fx_X0_statusOfMissingFile a1 a3 ∧ u = [(h0, .inr (0, [.int a0, .int a1, .int a2, .int a3, .int a4, .int a5, .int a6, .int a7, .int a8, .int a9, .int a10, .int a11]))]) (at_W dC dI (va_A [(h0, .inr (0, [.int a0, .int a1, .int a2, .int a3, .int a4, .int a5, .int a6, .int a7, .int a8, .int a9, .int a10, .int a11]))] sz)) (va_A [(h0, .inr (0, [.int a0, .int a1, .int a2, .int a3, .int a4, .int a5, .int a6, .int a7, .int a8, .int a9, .int a10, .int a11]))] sz)) 0 0 (va_A [(h0, .inr (0, [.int a0, .int a1, .int a2, .int a3, .int a4, .int a5, .int a6, .int a7, .int a8, .int a9, .int a10, .int a11]))] sz) := by
  refine Met.ofW (cc := cX0_statusOfMissingFile) (maxL := 1) (ret := (some .int)) (by decide) rfl ?_
  intro p e s m args below meth c s₁ B hml hv
  obtain ⟨rfl, hsz, hP, hK, hD0⟩ := hv
  have hx := B.exec
  have hb := B.bytes
  have hr := B.returns
  have hts := atoms_spec (ws := wsX0_statusOfMissingFile) B.pre
  have hown : s.vm.findClass RX0 = some m.cls := findClass_of_methodNamed B.named
  have hlocks := B.notSynchronized
  subst hsz
  have hD := hD0.self (sz := s.heap.size)
  generalize hAe : va_A [(h0, .inr (0, [.int a0, .int a1, .int a2, .int a3, .int a4, .int a5, .int a6, .int a7, .int a8, .int a9, .int a10, .int a11]))] s.heap.size = A at hD ⊢
  have hA : ∀ q : Nat, s.heap.size ≤ q → A q := fun q h => by rw [← hAe]; exact Or.inr h
  have hS : va_S A s.heap s.heap [] := va_S.rf
  have hP : va_P (dC, dI) vwCl [(h0, .inr (0, [.int a0, .int a1, .int a2, .int a3, .int a4, .int a5, .int a6, .int a7, .int a8, .int a9, .int a10, .int a11]))] s.heap := hP
  have hl := lv_entry ([.ref h0]) (n := 1) (Nat.le_of_ble_eq_true rfl)
  rw [lg_entry_eq]
  generalize (lg_sl ([.ref h0]) ++ List.replicate (1 - (lg_sl ([.ref h0])).length) Slot.unset).toArray = ls at hl ⊢
  have hl : lv_has ls 1 [(0, .ref h0)] := hl
  refine lv_aload_n hx hb dX0_statusOfMissingFile_0 rfl (lv_at hl 0 rfl) ?_
  refine va_get (D := (dC, dI)) (ci := 0) (v := .int a1) (C := RX0) (T := TX0) (N := 12) hx hb hts (fun _ h => List.mem_cons_of_mem _ (List.mem_append_right _ h)) hown hK hP 0 rfl rfl 1 (by decide) (hts (.fieldLink RX0 9 "FileStatus" "chosenMode" "I") (by decide +kernel)) (fun _ h9 => h9) rfl dX0_statusOfMissingFile_1 ?_
  refine lv_iconst (v := 1) hx hb dX0_statusOfMissingFile_4 (by decide) ?_
  refine lv_icmp_ne (tgt := 10) hx hb dX0_statusOfMissingFile_5 (by decide) (fun c_1 => ?_) (fun c_1 => ?_)
  · refine lv_aload_n hx hb dX0_statusOfMissingFile_10 rfl (lv_at hl 0 rfl) ?_
    refine va_get (D := (dC, dI)) (ci := 0) (v := .int a3) (C := RX0) (T := TX0) (N := 12) hx hb hts (fun _ h => List.mem_cons_of_mem _ (List.mem_append_right _ h)) hown hK hP 0 rfl rfl 3 (by decide) (hts (.fieldLink RX0 17 "FileStatus" "isOptional" "Z") (by decide +kernel)) (fun _ h9 => h9) rfl dX0_statusOfMissingFile_11 ?_
    refine lv_if_eq (tgt := 21) hx hb dX0_statusOfMissingFile_14 (by decide) (fun c_2 => ?_) (fun c_2 => ?_)
    · refine lv_bipush (v := 35) hx hb dX0_statusOfMissingFile_21 (by decide) ?_
      have hP9 := hP.sub (ws' := [(h0, .inr (0, [.int a0, .int a1, .int a2, .int a3, .int a4, .int a5, .int a6, .int a7, .int a8, .int a9, .int a10, .int a11]))]) [0] rfl
      have hD9 := hD.sub (ws' := [(h0, .inr (0, [.int a0, .int a1, .int a2, .int a3, .int a4, .int a5, .int a6, .int a7, .int a8, .int a9, .int a10, .int a11]))]) [0] (by decide) rfl
      have hK9 := hK.sub (tys' := []) [] rfl
      have ef : fx_X0_statusOfMissingFile a1 a3 = 35 := by unfold fx_X0_statusOfMissingFile; rw [if_neg c_1, if_pos c_2]
      exact W.iret (v := 35) hx hb hr (fun t ht hW => ⟨⟨35, [(h0, .inr (0, [.int a0, .int a1, .int a2, .int a3, .int a4, .int a5, .int a6, .int a7, .int a8, .int a9, .int a10, .int a11]))], rfl, ⟨ef.symm, rfl⟩, by rw [ht]; exact hP9, va_K.moved hW.alike hK9, hD9⟩, hS.F ht⟩) hS.2.2 dX0_statusOfMissingFile_23
    refine lv_iconst (v := 5) hx hb dX0_statusOfMissingFile_17 (by decide) ?_
    refine lv_goto (tgt := 23) hx hb dX0_statusOfMissingFile_18 (by decide) ?_
    have hP9 := hP.sub (ws' := [(h0, .inr (0, [.int a0, .int a1, .int a2, .int a3, .int a4, .int a5, .int a6, .int a7, .int a8, .int a9, .int a10, .int a11]))]) [0] rfl
    have hD9 := hD.sub (ws' := [(h0, .inr (0, [.int a0, .int a1, .int a2, .int a3, .int a4, .int a5, .int a6, .int a7, .int a8, .int a9, .int a10, .int a11]))]) [0] (by decide) rfl
    have hK9 := hK.sub (tys' := []) [] rfl
    have ef : fx_X0_statusOfMissingFile a1 a3 = 5 := by unfold fx_X0_statusOfMissingFile; rw [if_neg c_1, if_neg c_2]
    exact W.iret (v := 5) hx hb hr (fun t ht hW => ⟨⟨5, [(h0, .inr (0, [.int a0, .int a1, .int a2, .int a3, .int a4, .int a5, .int a6, .int a7, .int a8, .int a9, .int a10, .int a11]))], rfl, ⟨ef.symm, rfl⟩, by rw [ht]; exact hP9, va_K.moved hW.alike hK9, hD9⟩, hS.F ht⟩) hS.2.2 dX0_statusOfMissingFile_23
  refine lv_iconst (v := 0) hx hb dX0_statusOfMissingFile_8 (by decide) ?_
  have hP9 := hP.sub (ws' := [(h0, .inr (0, [.int a0, .int a1, .int a2, .int a3, .int a4, .int a5, .int a6, .int a7, .int a8, .int a9, .int a10, .int a11]))]) [0] rfl
  have hD9 := hD.sub (ws' := [(h0, .inr (0, [.int a0, .int a1, .int a2, .int a3, .int a4, .int a5, .int a6, .int a7, .int a8, .int a9, .int a10, .int a11]))]) [0] (by decide) rfl
  have hK9 := hK.sub (tys' := []) [] rfl
  have ef : fx_X0_statusOfMissingFile a1 a3 = 0 := by unfold fx_X0_statusOfMissingFile; rw [if_pos c_1]
  exact W.iret (v := 0) hx hb hr (fun t ht hW => ⟨⟨0, [(h0, .inr (0, [.int a0, .int a1, .int a2, .int a3, .int a4, .int a5, .int a6, .int a7, .int a8, .int a9, .int a10, .int a11]))], rfl, ⟨ef.symm, rfl⟩, by rw [ht]; exact hP9, va_K.moved hW.alike hK9, hD9⟩, hS.F ht⟩) hS.2.2 dX0_statusOfMissingFile_9
set_option maxHeartbeats 4000000 in
set_option maxRecDepth 100000 in
theorem ct_X0_statusOfNoRecord (l : Launch) (dC : Nat → ClassId) (dI : Nat → Nat → Nat) (h0 : Nat) (sz : Nat) (a0 a1 a2 a3 a4 a5 a6 a7 a8 a9 a10 a11 p0 : Int32) : Met l yX0_statusOfNoRecord wsX0_statusOfNoRecord ({ frames := 0, cells := 0, slots := 0, locals := 0 }) (va_Pc [.ref h0, .int p0] (fun U => U.heap.size = sz ∧ va_P (dC, dI) vwCl [(h0, .inr (0, [.int a0, .int a1, .int a2, .int a3, .int a4, .int a5, .int a6, .int a7, .int a8, .int a9, .int a10, .int a11]))] U.heap ∧ va_K (dC, dI) vwCl [] U ∧ va_D (fun _ => True) [(h0, .inr (0, [.int a0, .int a1, .int a2, .int a3, .int a4, .int a5, .int a6, .int a7, .int a8, .int a9, .int a10, .int a11]))])) (va_Qi (fun (r : Int32) (u : va_W) => r = fx_X0_statusOfNoRecord a0 p0 ∧ u = [(h0, .inr (0, [.int a0, .int a1, .int a2, .int a3, .int a4, .int a5, .int a6, .int a7, .int a8, .int a9, .int a10, .int a11]))]) (at_W dC dI (va_A [(h0, .inr (0, [.int a0, .int a1, .int a2, .int a3, .int a4, .int a5, .int a6, .int a7, .int a8, .int a9, .int a10, .int a11]))] sz)) (va_A [(h0, .inr (0, [.int a0, .int a1, .int a2, .int a3, .int a4, .int a5, .int a6, .int a7, .int a8, .int a9, .int a10, .int a11]))] sz)) 0 0 (va_A [(h0, .inr (0, [.int a0, .int a1, .int a2, .int a3, .int a4, .int a5, .int a6, .int a7, .int a8, .int a9, .int a10, .int a11]))] sz) := by
  refine Met.ofW (cc := cX0_statusOfNoRecord) (maxL := 2) (ret := (some .int)) (by decide) rfl ?_
  intro p e s m args below meth c s₁ B hml hv
  obtain ⟨rfl, hsz, hP, hK, hD0⟩ := hv
  have hx := B.exec
  have hb := B.bytes
  have hr := B.returns
  have hts := atoms_spec (ws := wsX0_statusOfNoRecord) B.pre
  have hown : s.vm.findClass RX0 = some m.cls := findClass_of_methodNamed B.named
  have hlocks := B.notSynchronized
  subst hsz
  have hD := hD0.self (sz := s.heap.size)
  generalize hAe : va_A [(h0, .inr (0, [.int a0, .int a1, .int a2, .int a3, .int a4, .int a5, .int a6, .int a7, .int a8, .int a9, .int a10, .int a11]))] s.heap.size = A at hD ⊢
  have hA : ∀ q : Nat, s.heap.size ≤ q → A q := fun q h => by rw [← hAe]; exact Or.inr h
  have hS : va_S A s.heap s.heap [] := va_S.rf
  have hP : va_P (dC, dI) vwCl [(h0, .inr (0, [.int a0, .int a1, .int a2, .int a3, .int a4, .int a5, .int a6, .int a7, .int a8, .int a9, .int a10, .int a11]))] s.heap := hP
  have hl := lv_entry ([.ref h0, .int p0]) (n := 2) (Nat.le_of_ble_eq_true rfl)
  rw [lg_entry_eq]
  generalize (lg_sl ([.ref h0, .int p0]) ++ List.replicate (2 - (lg_sl ([.ref h0, .int p0])).length) Slot.unset).toArray = ls at hl ⊢
  have hl : lv_has ls 2 [(0, .ref h0), (1, .int p0)] := hl
  refine lv_iload_n hx hb dX0_statusOfNoRecord_0 rfl (lv_at hl 1 rfl) ?_
  by_cases c_1 : p0 = 0
  · refine lv_tableIn (off := 39) (tgt := 40) hx hb dX0_statusOfNoRecord_1 (by rw [c_1]; decide) (by rw [c_1]; decide) (by rw [c_1]; rfl) (by decide) ?_
    refine lv_bipush (v := 10) hx hb dX0_statusOfNoRecord_40 (by decide) ?_
    have hP9 := hP.sub (ws' := [(h0, .inr (0, [.int a0, .int a1, .int a2, .int a3, .int a4, .int a5, .int a6, .int a7, .int a8, .int a9, .int a10, .int a11]))]) [0] rfl
    have hD9 := hD.sub (ws' := [(h0, .inr (0, [.int a0, .int a1, .int a2, .int a3, .int a4, .int a5, .int a6, .int a7, .int a8, .int a9, .int a10, .int a11]))]) [0] (by decide) rfl
    have hK9 := hK.sub (tys' := []) [] rfl
    have ef : fx_X0_statusOfNoRecord a0 p0 = 10 := by unfold fx_X0_statusOfNoRecord; rw [if_pos c_1]
    exact W.iret (v := 10) hx hb hr (fun t ht hW => ⟨⟨10, [(h0, .inr (0, [.int a0, .int a1, .int a2, .int a3, .int a4, .int a5, .int a6, .int a7, .int a8, .int a9, .int a10, .int a11]))], rfl, ⟨ef.symm, rfl⟩, by rw [ht]; exact hP9, va_K.moved hW.alike hK9, hD9⟩, hS.F ht⟩) hS.2.2 dX0_statusOfNoRecord_42
  by_cases c_2 : p0 = 1
  · refine lv_tableIn (off := 57) (tgt := 58) hx hb dX0_statusOfNoRecord_1 (by rw [c_2]; decide) (by rw [c_2]; decide) (by rw [c_2]; rfl) (by decide) ?_
    refine lv_bipush (v := 23) hx hb dX0_statusOfNoRecord_58 (by decide) ?_
    have hP9 := hP.sub (ws' := [(h0, .inr (0, [.int a0, .int a1, .int a2, .int a3, .int a4, .int a5, .int a6, .int a7, .int a8, .int a9, .int a10, .int a11]))]) [0] rfl
    have hD9 := hD.sub (ws' := [(h0, .inr (0, [.int a0, .int a1, .int a2, .int a3, .int a4, .int a5, .int a6, .int a7, .int a8, .int a9, .int a10, .int a11]))]) [0] (by decide) rfl
    have hK9 := hK.sub (tys' := []) [] rfl
    have ef : fx_X0_statusOfNoRecord a0 p0 = 23 := by unfold fx_X0_statusOfNoRecord; rw [if_neg c_1, if_pos c_2]
    exact W.iret (v := 23) hx hb hr (fun t ht hW => ⟨⟨23, [(h0, .inr (0, [.int a0, .int a1, .int a2, .int a3, .int a4, .int a5, .int a6, .int a7, .int a8, .int a9, .int a10, .int a11]))], rfl, ⟨ef.symm, rfl⟩, by rw [ht]; exact hP9, va_K.moved hW.alike hK9, hD9⟩, hS.F ht⟩) hS.2.2 dX0_statusOfNoRecord_60
  by_cases c_3 : p0 = 2
  · refine lv_tableIn (off := 60) (tgt := 61) hx hb dX0_statusOfNoRecord_1 (by rw [c_3]; decide) (by rw [c_3]; decide) (by rw [c_3]; rfl) (by decide) ?_
    refine lv_bipush (v := 90) hx hb dX0_statusOfNoRecord_61 (by decide) ?_
    have hP9 := hP.sub (ws' := [(h0, .inr (0, [.int a0, .int a1, .int a2, .int a3, .int a4, .int a5, .int a6, .int a7, .int a8, .int a9, .int a10, .int a11]))]) [0] rfl
    have hD9 := hD.sub (ws' := [(h0, .inr (0, [.int a0, .int a1, .int a2, .int a3, .int a4, .int a5, .int a6, .int a7, .int a8, .int a9, .int a10, .int a11]))]) [0] (by decide) rfl
    have hK9 := hK.sub (tys' := []) [] rfl
    have ef : fx_X0_statusOfNoRecord a0 p0 = 90 := by unfold fx_X0_statusOfNoRecord; rw [if_neg c_1, if_neg c_2, if_pos c_3]
    exact W.iret (v := 90) hx hb hr (fun t ht hW => ⟨⟨90, [(h0, .inr (0, [.int a0, .int a1, .int a2, .int a3, .int a4, .int a5, .int a6, .int a7, .int a8, .int a9, .int a10, .int a11]))], rfl, ⟨ef.symm, rfl⟩, by rw [ht]; exact hP9, va_K.moved hW.alike hK9, hD9⟩, hS.F ht⟩) hS.2.2 dX0_statusOfNoRecord_63
  by_cases c_4 : p0 = 3
  · refine lv_tableIn (off := 42) (tgt := 43) hx hb dX0_statusOfNoRecord_1 (by rw [c_4]; decide) (by rw [c_4]; decide) (by rw [c_4]; rfl) (by decide) ?_
    refine lv_aload_n hx hb dX0_statusOfNoRecord_43 rfl (lv_at hl 0 rfl) ?_
    refine va_get (D := (dC, dI)) (ci := 0) (v := .int a0) (C := RX0) (T := TX0) (N := 12) hx hb hts (fun _ h => List.mem_cons_of_mem _ (List.mem_append_right _ h)) hown hK hP 0 rfl rfl 0 (by decide) (hts (.fieldLink RX0 53 "FileStatus" "organisation" "I") (by decide +kernel)) (fun _ h9 => h9) rfl dX0_statusOfNoRecord_44 ?_
    refine lv_if_ne (tgt := 55) hx hb dX0_statusOfNoRecord_47 (by decide) (fun c_5 => ?_) (fun c_5 => ?_)
    · refine lv_bipush (v := 23) hx hb dX0_statusOfNoRecord_55 (by decide) ?_
      have hP9 := hP.sub (ws' := [(h0, .inr (0, [.int a0, .int a1, .int a2, .int a3, .int a4, .int a5, .int a6, .int a7, .int a8, .int a9, .int a10, .int a11]))]) [0] rfl
      have hD9 := hD.sub (ws' := [(h0, .inr (0, [.int a0, .int a1, .int a2, .int a3, .int a4, .int a5, .int a6, .int a7, .int a8, .int a9, .int a10, .int a11]))]) [0] (by decide) rfl
      have hK9 := hK.sub (tys' := []) [] rfl
      have ef : fx_X0_statusOfNoRecord a0 p0 = 23 := by unfold fx_X0_statusOfNoRecord; rw [if_neg c_1, if_neg c_2, if_neg c_3, if_pos c_4, if_neg c_5]
      exact W.iret (v := 23) hx hb hr (fun t ht hW => ⟨⟨23, [(h0, .inr (0, [.int a0, .int a1, .int a2, .int a3, .int a4, .int a5, .int a6, .int a7, .int a8, .int a9, .int a10, .int a11]))], rfl, ⟨ef.symm, rfl⟩, by rw [ht]; exact hP9, va_K.moved hW.alike hK9, hD9⟩, hS.F ht⟩) hS.2.2 dX0_statusOfNoRecord_57
    refine lv_bipush (v := 90) hx hb dX0_statusOfNoRecord_50 (by decide) ?_
    refine lv_goto (tgt := 57) hx hb dX0_statusOfNoRecord_52 (by decide) ?_
    have hP9 := hP.sub (ws' := [(h0, .inr (0, [.int a0, .int a1, .int a2, .int a3, .int a4, .int a5, .int a6, .int a7, .int a8, .int a9, .int a10, .int a11]))]) [0] rfl
    have hD9 := hD.sub (ws' := [(h0, .inr (0, [.int a0, .int a1, .int a2, .int a3, .int a4, .int a5, .int a6, .int a7, .int a8, .int a9, .int a10, .int a11]))]) [0] (by decide) rfl
    have hK9 := hK.sub (tys' := []) [] rfl
    have ef : fx_X0_statusOfNoRecord a0 p0 = 90 := by unfold fx_X0_statusOfNoRecord; rw [if_neg c_1, if_neg c_2, if_neg c_3, if_pos c_4, if_pos c_5]
    exact W.iret (v := 90) hx hb hr (fun t ht hW => ⟨⟨90, [(h0, .inr (0, [.int a0, .int a1, .int a2, .int a3, .int a4, .int a5, .int a6, .int a7, .int a8, .int a9, .int a10, .int a11]))], rfl, ⟨ef.symm, rfl⟩, by rw [ht]; exact hP9, va_K.moved hW.alike hK9, hD9⟩, hS.F ht⟩) hS.2.2 dX0_statusOfNoRecord_57
  by_cases c_6 : p0 = 4
  · refine lv_tableIn (off := 57) (tgt := 58) hx hb dX0_statusOfNoRecord_1 (by rw [c_6]; decide) (by rw [c_6]; decide) (by rw [c_6]; rfl) (by decide) ?_
    refine lv_bipush (v := 23) hx hb dX0_statusOfNoRecord_58 (by decide) ?_
    have hP9 := hP.sub (ws' := [(h0, .inr (0, [.int a0, .int a1, .int a2, .int a3, .int a4, .int a5, .int a6, .int a7, .int a8, .int a9, .int a10, .int a11]))]) [0] rfl
    have hD9 := hD.sub (ws' := [(h0, .inr (0, [.int a0, .int a1, .int a2, .int a3, .int a4, .int a5, .int a6, .int a7, .int a8, .int a9, .int a10, .int a11]))]) [0] (by decide) rfl
    have hK9 := hK.sub (tys' := []) [] rfl
    have ef : fx_X0_statusOfNoRecord a0 p0 = 23 := by unfold fx_X0_statusOfNoRecord; rw [if_neg c_1, if_neg c_2, if_neg c_3, if_neg c_4, if_pos c_6]
    exact W.iret (v := 23) hx hb hr (fun t ht hW => ⟨⟨23, [(h0, .inr (0, [.int a0, .int a1, .int a2, .int a3, .int a4, .int a5, .int a6, .int a7, .int a8, .int a9, .int a10, .int a11]))], rfl, ⟨ef.symm, rfl⟩, by rw [ht]; exact hP9, va_K.moved hW.alike hK9, hD9⟩, hS.F ht⟩) hS.2.2 dX0_statusOfNoRecord_60
  by_cases c_7 : p0 = 5
  · refine lv_tableIn (off := 57) (tgt := 58) hx hb dX0_statusOfNoRecord_1 (by rw [c_7]; decide) (by rw [c_7]; decide) (by rw [c_7]; rfl) (by decide) ?_
    refine lv_bipush (v := 23) hx hb dX0_statusOfNoRecord_58 (by decide) ?_
    have hP9 := hP.sub (ws' := [(h0, .inr (0, [.int a0, .int a1, .int a2, .int a3, .int a4, .int a5, .int a6, .int a7, .int a8, .int a9, .int a10, .int a11]))]) [0] rfl
    have hD9 := hD.sub (ws' := [(h0, .inr (0, [.int a0, .int a1, .int a2, .int a3, .int a4, .int a5, .int a6, .int a7, .int a8, .int a9, .int a10, .int a11]))]) [0] (by decide) rfl
    have hK9 := hK.sub (tys' := []) [] rfl
    have ef : fx_X0_statusOfNoRecord a0 p0 = 23 := by unfold fx_X0_statusOfNoRecord; rw [if_neg c_1, if_neg c_2, if_neg c_3, if_neg c_4, if_neg c_6, if_pos c_7]
    exact W.iret (v := 23) hx hb hr (fun t ht hW => ⟨⟨23, [(h0, .inr (0, [.int a0, .int a1, .int a2, .int a3, .int a4, .int a5, .int a6, .int a7, .int a8, .int a9, .int a10, .int a11]))], rfl, ⟨ef.symm, rfl⟩, by rw [ht]; exact hP9, va_K.moved hW.alike hK9, hD9⟩, hS.F ht⟩) hS.2.2 dX0_statusOfNoRecord_60
  refine lv_tableOut (tgt := 61) hx hb dX0_statusOfNoRecord_1 (by have n_0 : (p0 : Int32).toInt ≠ 0 := xx_ne c_1 (by decide); have n_1 : (p0 : Int32).toInt ≠ 1 := xx_ne c_2 (by decide); have n_2 : (p0 : Int32).toInt ≠ 2 := xx_ne c_3 (by decide); have n_3 : (p0 : Int32).toInt ≠ 3 := xx_ne c_4 (by decide); have n_4 : (p0 : Int32).toInt ≠ 4 := xx_ne c_6 (by decide); have n_5 : (p0 : Int32).toInt ≠ 5 := xx_ne c_7 (by decide); omega) (by decide) ?_
  refine lv_bipush (v := 90) hx hb dX0_statusOfNoRecord_61 (by decide) ?_
  have hP9 := hP.sub (ws' := [(h0, .inr (0, [.int a0, .int a1, .int a2, .int a3, .int a4, .int a5, .int a6, .int a7, .int a8, .int a9, .int a10, .int a11]))]) [0] rfl
  have hD9 := hD.sub (ws' := [(h0, .inr (0, [.int a0, .int a1, .int a2, .int a3, .int a4, .int a5, .int a6, .int a7, .int a8, .int a9, .int a10, .int a11]))]) [0] (by decide) rfl
  have hK9 := hK.sub (tys' := []) [] rfl
  have ef : fx_X0_statusOfNoRecord a0 p0 = 90 := by unfold fx_X0_statusOfNoRecord; rw [if_neg c_1, if_neg c_2, if_neg c_3, if_neg c_4, if_neg c_6, if_neg c_7]
  exact W.iret (v := 90) hx hb hr (fun t ht hW => ⟨⟨90, [(h0, .inr (0, [.int a0, .int a1, .int a2, .int a3, .int a4, .int a5, .int a6, .int a7, .int a8, .int a9, .int a10, .int a11]))], rfl, ⟨ef.symm, rfl⟩, by rw [ht]; exact hP9, va_K.moved hW.alike hK9, hD9⟩, hS.F ht⟩) hS.2.2 dX0_statusOfNoRecord_63
set_option maxHeartbeats 4000000 in
set_option maxRecDepth 100000 in
theorem ct_X0_statusOfBarredDouble (l : Launch) (dC : Nat → ClassId) (dI : Nat → Nat → Nat) (h0 : Nat) (sz : Nat) (a0 a1 a2 a3 a4 a5 a6 a7 a8 a9 a10 a11 p0 : Int32) : Met l yX0_statusOfBarredDouble wsX0_statusOfBarredDouble ({ frames := 0, cells := 0, slots := 0, locals := 0 }) (va_Pc [.ref h0, .int p0] (fun U => U.heap.size = sz ∧ va_P (dC, dI) vwCl [(h0, .inr (0, [.int a0, .int a1, .int a2, .int a3, .int a4, .int a5, .int a6, .int a7, .int a8, .int a9, .int a10, .int a11]))] U.heap ∧ va_K (dC, dI) vwCl [] U ∧ va_D (fun _ => True) [(h0, .inr (0, [.int a0, .int a1, .int a2, .int a3, .int a4, .int a5, .int a6, .int a7, .int a8, .int a9, .int a10, .int a11]))])) (va_Qi (fun (r : Int32) (u : va_W) => r = fx_X0_statusOfBarredDouble a0 p0 ∧ u = [(h0, .inr (0, [.int a0, .int a1, .int a2, .int a3, .int a4, .int a5, .int a6, .int a7, .int a8, .int a9, .int a10, .int a11]))]) (at_W dC dI (va_A [(h0, .inr (0, [.int a0, .int a1, .int a2, .int a3, .int a4, .int a5, .int a6, .int a7, .int a8, .int a9, .int a10, .int a11]))] sz)) (va_A [(h0, .inr (0, [.int a0, .int a1, .int a2, .int a3, .int a4, .int a5, .int a6, .int a7, .int a8, .int a9, .int a10, .int a11]))] sz)) 0 0 (va_A [(h0, .inr (0, [.int a0, .int a1, .int a2, .int a3, .int a4, .int a5, .int a6, .int a7, .int a8, .int a9, .int a10, .int a11]))] sz) := by
  refine Met.ofW (cc := cX0_statusOfBarredDouble) (maxL := 4) (ret := (some .int)) (by decide) rfl ?_
  intro p e s m args below meth c s₁ B hml hv
  obtain ⟨rfl, hsz, hP, hK, hD0⟩ := hv
  have hx := B.exec
  have hb := B.bytes
  have hr := B.returns
  have hts := atoms_spec (ws := wsX0_statusOfBarredDouble) B.pre
  have hown : s.vm.findClass RX0 = some m.cls := findClass_of_methodNamed B.named
  have hlocks := B.notSynchronized
  subst hsz
  have hD := hD0.self (sz := s.heap.size)
  generalize hAe : va_A [(h0, .inr (0, [.int a0, .int a1, .int a2, .int a3, .int a4, .int a5, .int a6, .int a7, .int a8, .int a9, .int a10, .int a11]))] s.heap.size = A at hD ⊢
  have hA : ∀ q : Nat, s.heap.size ≤ q → A q := fun q h => by rw [← hAe]; exact Or.inr h
  have hS : va_S A s.heap s.heap [] := va_S.rf
  have hP : va_P (dC, dI) vwCl [(h0, .inr (0, [.int a0, .int a1, .int a2, .int a3, .int a4, .int a5, .int a6, .int a7, .int a8, .int a9, .int a10, .int a11]))] s.heap := hP
  have hl := lv_entry ([.ref h0, .int p0]) (n := 4) (Nat.le_of_ble_eq_true rfl)
  rw [lg_entry_eq]
  generalize (lg_sl ([.ref h0, .int p0]) ++ List.replicate (4 - (lg_sl ([.ref h0, .int p0])).length) Slot.unset).toArray = ls at hl ⊢
  have hl : lv_has ls 4 [(0, .ref h0), (1, .int p0)] := hl
  refine lv_iload_n hx hb dX0_statusOfBarredDouble_0 rfl (lv_at hl 1 rfl) ?_
  refine lv_iconst (v := 2) hx hb dX0_statusOfBarredDouble_1 (by decide) ?_
  refine lv_icmp_ne (tgt := 16) hx hb dX0_statusOfBarredDouble_2 (by decide) (fun c_1 => ?_) (fun c_1 => ?_)
  · refine lv_iconst (v := 0) hx hb dX0_statusOfBarredDouble_16 (by decide) ?_
    refine lv_istore_n (lv' := [(2, .int 0), (0, .ref h0), (1, .int p0)]) hx hb dX0_statusOfBarredDouble_17 rfl hl (by decide) rfl (fun ls hl => ?_)
    refine lv_iload_n hx hb dX0_statusOfBarredDouble_18 rfl (lv_at hl 2 rfl) ?_
    refine lv_iconst (v := 3) hx hb dX0_statusOfBarredDouble_19 (by decide) ?_
    refine lv_icmp_ne (tgt := 35) hx hb dX0_statusOfBarredDouble_20 (by decide) (fun c_2 => ?_) (fun c_2 => ?_)
    · refine lv_iconst (v := 0) hx hb dX0_statusOfBarredDouble_35 (by decide) ?_
      refine lv_istore_n (lv' := [(3, .int 0), (2, .int 0), (0, .ref h0), (1, .int p0)]) hx hb dX0_statusOfBarredDouble_36 rfl hl (by decide) rfl (fun ls hl => ?_)
      refine lv_iload_n hx hb dX0_statusOfBarredDouble_37 rfl (lv_at hl 1 rfl) ?_
      refine lv_if_ne (tgt := 45) hx hb dX0_statusOfBarredDouble_38 (by decide) (fun c9 => absurd c9 (by decide)) (fun c9 => ?_)
      refine lv_iload_n hx hb dX0_statusOfBarredDouble_41 rfl (lv_at hl 0 rfl) ?_
      refine lv_if_eq (tgt := 50) hx hb dX0_statusOfBarredDouble_42 (by decide) (fun c9 => ?_) (fun c9 => absurd c9 (by decide))
      refine lv_bipush (v := 90) hx hb dX0_statusOfBarredDouble_50 (by decide) ?_
      have hP9 := hP.sub (ws' := [(h0, .inr (0, [.int a0, .int a1, .int a2, .int a3, .int a4, .int a5, .int a6, .int a7, .int a8, .int a9, .int a10, .int a11]))]) [0] rfl
      have hD9 := hD.sub (ws' := [(h0, .inr (0, [.int a0, .int a1, .int a2, .int a3, .int a4, .int a5, .int a6, .int a7, .int a8, .int a9, .int a10, .int a11]))]) [0] (by decide) rfl
      have hK9 := hK.sub (tys' := []) [] rfl
      have ef : fx_X0_statusOfBarredDouble a0 p0 = 90 := by unfold fx_X0_statusOfBarredDouble; rw [if_neg c_1, if_neg c_2]
      exact W.iret (v := 90) hx hb hr (fun t ht hW => ⟨⟨90, [(h0, .inr (0, [.int a0, .int a1, .int a2, .int a3, .int a4, .int a5, .int a6, .int a7, .int a8, .int a9, .int a10, .int a11]))], rfl, ⟨ef.symm, rfl⟩, by rw [ht]; exact hP9, va_K.moved hW.alike hK9, hD9⟩, hS.F ht⟩) hS.2.2 dX0_statusOfBarredDouble_52
    refine lv_aload_n hx hb dX0_statusOfBarredDouble_23 rfl (lv_at hl 1 rfl) ?_
    refine va_get (D := (dC, dI)) (ci := 0) (v := .int a0) (C := RX0) (T := TX0) (N := 12) hx hb hts (fun _ h => List.mem_cons_of_mem _ (List.mem_append_right _ h)) hown hK hP 0 rfl rfl 0 (by decide) (hts (.fieldLink RX0 53 "FileStatus" "organisation" "I") (by decide +kernel)) (fun _ h9 => h9) rfl dX0_statusOfBarredDouble_24 ?_
    refine lv_iconst (v := 2) hx hb dX0_statusOfBarredDouble_27 (by decide) ?_
    refine lv_icmp_ne (tgt := 35) hx hb dX0_statusOfBarredDouble_28 (by decide) (fun c_3 => ?_) (fun c_3 => ?_)
    · refine lv_iconst (v := 0) hx hb dX0_statusOfBarredDouble_35 (by decide) ?_
      refine lv_istore_n (lv' := [(3, .int 0), (2, .int 0), (0, .ref h0), (1, .int p0)]) hx hb dX0_statusOfBarredDouble_36 rfl hl (by decide) rfl (fun ls hl => ?_)
      refine lv_iload_n hx hb dX0_statusOfBarredDouble_37 rfl (lv_at hl 1 rfl) ?_
      refine lv_if_ne (tgt := 45) hx hb dX0_statusOfBarredDouble_38 (by decide) (fun c9 => absurd c9 (by decide)) (fun c9 => ?_)
      refine lv_iload_n hx hb dX0_statusOfBarredDouble_41 rfl (lv_at hl 0 rfl) ?_
      refine lv_if_eq (tgt := 50) hx hb dX0_statusOfBarredDouble_42 (by decide) (fun c9 => ?_) (fun c9 => absurd c9 (by decide))
      refine lv_bipush (v := 90) hx hb dX0_statusOfBarredDouble_50 (by decide) ?_
      have hP9 := hP.sub (ws' := [(h0, .inr (0, [.int a0, .int a1, .int a2, .int a3, .int a4, .int a5, .int a6, .int a7, .int a8, .int a9, .int a10, .int a11]))]) [0] rfl
      have hD9 := hD.sub (ws' := [(h0, .inr (0, [.int a0, .int a1, .int a2, .int a3, .int a4, .int a5, .int a6, .int a7, .int a8, .int a9, .int a10, .int a11]))]) [0] (by decide) rfl
      have hK9 := hK.sub (tys' := []) [] rfl
      have ef : fx_X0_statusOfBarredDouble a0 p0 = 90 := by unfold fx_X0_statusOfBarredDouble; rw [if_neg c_1, if_pos c_2, if_neg c_3]
      exact W.iret (v := 90) hx hb hr (fun t ht hW => ⟨⟨90, [(h0, .inr (0, [.int a0, .int a1, .int a2, .int a3, .int a4, .int a5, .int a6, .int a7, .int a8, .int a9, .int a10, .int a11]))], rfl, ⟨ef.symm, rfl⟩, by rw [ht]; exact hP9, va_K.moved hW.alike hK9, hD9⟩, hS.F ht⟩) hS.2.2 dX0_statusOfBarredDouble_52
    refine lv_iconst (v := 1) hx hb dX0_statusOfBarredDouble_31 (by decide) ?_
    refine lv_goto (tgt := 36) hx hb dX0_statusOfBarredDouble_32 (by decide) ?_
    refine lv_istore_n (lv' := [(3, .int 1), (2, .int 0), (0, .ref h0), (1, .int p0)]) hx hb dX0_statusOfBarredDouble_36 rfl hl (by decide) rfl (fun ls hl => ?_)
    refine lv_iload_n hx hb dX0_statusOfBarredDouble_37 rfl (lv_at hl 1 rfl) ?_
    refine lv_if_ne (tgt := 45) hx hb dX0_statusOfBarredDouble_38 (by decide) (fun c9 => absurd c9 (by decide)) (fun c9 => ?_)
    refine lv_iload_n hx hb dX0_statusOfBarredDouble_41 rfl (lv_at hl 0 rfl) ?_
    refine lv_if_eq (tgt := 50) hx hb dX0_statusOfBarredDouble_42 (by decide) (fun c9 => absurd c9 (by decide)) (fun c9 => ?_)
    refine lv_bipush (v := 22) hx hb dX0_statusOfBarredDouble_45 (by decide) ?_
    refine lv_goto (tgt := 52) hx hb dX0_statusOfBarredDouble_47 (by decide) ?_
    have hP9 := hP.sub (ws' := [(h0, .inr (0, [.int a0, .int a1, .int a2, .int a3, .int a4, .int a5, .int a6, .int a7, .int a8, .int a9, .int a10, .int a11]))]) [0] rfl
    have hD9 := hD.sub (ws' := [(h0, .inr (0, [.int a0, .int a1, .int a2, .int a3, .int a4, .int a5, .int a6, .int a7, .int a8, .int a9, .int a10, .int a11]))]) [0] (by decide) rfl
    have hK9 := hK.sub (tys' := []) [] rfl
    have ef : fx_X0_statusOfBarredDouble a0 p0 = 22 := by unfold fx_X0_statusOfBarredDouble; rw [if_neg c_1, if_pos c_2, if_pos c_3]
    exact W.iret (v := 22) hx hb hr (fun t ht hW => ⟨⟨22, [(h0, .inr (0, [.int a0, .int a1, .int a2, .int a3, .int a4, .int a5, .int a6, .int a7, .int a8, .int a9, .int a10, .int a11]))], rfl, ⟨ef.symm, rfl⟩, by rw [ht]; exact hP9, va_K.moved hW.alike hK9, hD9⟩, hS.F ht⟩) hS.2.2 dX0_statusOfBarredDouble_52
  refine lv_aload_n hx hb dX0_statusOfBarredDouble_5 rfl (lv_at hl 0 rfl) ?_
  refine va_get (D := (dC, dI)) (ci := 0) (v := .int a0) (C := RX0) (T := TX0) (N := 12) hx hb hts (fun _ h => List.mem_cons_of_mem _ (List.mem_append_right _ h)) hown hK hP 0 rfl rfl 0 (by decide) (hts (.fieldLink RX0 53 "FileStatus" "organisation" "I") (by decide +kernel)) (fun _ h9 => h9) rfl dX0_statusOfBarredDouble_6 ?_
  refine lv_if_eq (tgt := 16) hx hb dX0_statusOfBarredDouble_9 (by decide) (fun c_4 => ?_) (fun c_4 => ?_)
  · refine lv_iconst (v := 0) hx hb dX0_statusOfBarredDouble_16 (by decide) ?_
    refine lv_istore_n (lv' := [(2, .int 0), (0, .ref h0), (1, .int p0)]) hx hb dX0_statusOfBarredDouble_17 rfl hl (by decide) rfl (fun ls hl => ?_)
    refine lv_iload_n hx hb dX0_statusOfBarredDouble_18 rfl (lv_at hl 2 rfl) ?_
    refine lv_iconst (v := 3) hx hb dX0_statusOfBarredDouble_19 (by decide) ?_
    refine lv_icmp_ne (tgt := 35) hx hb dX0_statusOfBarredDouble_20 (by decide) (fun c9 => ?_) (fun c9 => absurd (c_1.symm.trans c9) (by decide))
    refine lv_iconst (v := 0) hx hb dX0_statusOfBarredDouble_35 (by decide) ?_
    refine lv_istore_n (lv' := [(3, .int 0), (2, .int 0), (0, .ref h0), (1, .int p0)]) hx hb dX0_statusOfBarredDouble_36 rfl hl (by decide) rfl (fun ls hl => ?_)
    refine lv_iload_n hx hb dX0_statusOfBarredDouble_37 rfl (lv_at hl 1 rfl) ?_
    refine lv_if_ne (tgt := 45) hx hb dX0_statusOfBarredDouble_38 (by decide) (fun c9 => absurd c9 (by decide)) (fun c9 => ?_)
    refine lv_iload_n hx hb dX0_statusOfBarredDouble_41 rfl (lv_at hl 0 rfl) ?_
    refine lv_if_eq (tgt := 50) hx hb dX0_statusOfBarredDouble_42 (by decide) (fun c9 => ?_) (fun c9 => absurd c9 (by decide))
    refine lv_bipush (v := 90) hx hb dX0_statusOfBarredDouble_50 (by decide) ?_
    have hP9 := hP.sub (ws' := [(h0, .inr (0, [.int a0, .int a1, .int a2, .int a3, .int a4, .int a5, .int a6, .int a7, .int a8, .int a9, .int a10, .int a11]))]) [0] rfl
    have hD9 := hD.sub (ws' := [(h0, .inr (0, [.int a0, .int a1, .int a2, .int a3, .int a4, .int a5, .int a6, .int a7, .int a8, .int a9, .int a10, .int a11]))]) [0] (by decide) rfl
    have hK9 := hK.sub (tys' := []) [] rfl
    have ef : fx_X0_statusOfBarredDouble a0 p0 = 90 := by unfold fx_X0_statusOfBarredDouble; rw [if_pos c_1, if_pos c_4]
    exact W.iret (v := 90) hx hb hr (fun t ht hW => ⟨⟨90, [(h0, .inr (0, [.int a0, .int a1, .int a2, .int a3, .int a4, .int a5, .int a6, .int a7, .int a8, .int a9, .int a10, .int a11]))], rfl, ⟨ef.symm, rfl⟩, by rw [ht]; exact hP9, va_K.moved hW.alike hK9, hD9⟩, hS.F ht⟩) hS.2.2 dX0_statusOfBarredDouble_52
  refine lv_iconst (v := 1) hx hb dX0_statusOfBarredDouble_12 (by decide) ?_
  refine lv_goto (tgt := 17) hx hb dX0_statusOfBarredDouble_13 (by decide) ?_
  refine lv_istore_n (lv' := [(2, .int 1), (0, .ref h0), (1, .int p0)]) hx hb dX0_statusOfBarredDouble_17 rfl hl (by decide) rfl (fun ls hl => ?_)
  refine lv_iload_n hx hb dX0_statusOfBarredDouble_18 rfl (lv_at hl 2 rfl) ?_
  refine lv_iconst (v := 3) hx hb dX0_statusOfBarredDouble_19 (by decide) ?_
  refine lv_icmp_ne (tgt := 35) hx hb dX0_statusOfBarredDouble_20 (by decide) (fun c9 => ?_) (fun c9 => absurd (c_1.symm.trans c9) (by decide))
  refine lv_iconst (v := 0) hx hb dX0_statusOfBarredDouble_35 (by decide) ?_
  refine lv_istore_n (lv' := [(3, .int 0), (2, .int 1), (0, .ref h0), (1, .int p0)]) hx hb dX0_statusOfBarredDouble_36 rfl hl (by decide) rfl (fun ls hl => ?_)
  refine lv_iload_n hx hb dX0_statusOfBarredDouble_37 rfl (lv_at hl 1 rfl) ?_
  refine lv_if_ne (tgt := 45) hx hb dX0_statusOfBarredDouble_38 (by decide) (fun c9 => ?_) (fun c9 => absurd c9 (by decide))
  refine lv_bipush (v := 22) hx hb dX0_statusOfBarredDouble_45 (by decide) ?_
  refine lv_goto (tgt := 52) hx hb dX0_statusOfBarredDouble_47 (by decide) ?_
  have hP9 := hP.sub (ws' := [(h0, .inr (0, [.int a0, .int a1, .int a2, .int a3, .int a4, .int a5, .int a6, .int a7, .int a8, .int a9, .int a10, .int a11]))]) [0] rfl
  have hD9 := hD.sub (ws' := [(h0, .inr (0, [.int a0, .int a1, .int a2, .int a3, .int a4, .int a5, .int a6, .int a7, .int a8, .int a9, .int a10, .int a11]))]) [0] (by decide) rfl
  have hK9 := hK.sub (tys' := []) [] rfl
  have ef : fx_X0_statusOfBarredDouble a0 p0 = 22 := by unfold fx_X0_statusOfBarredDouble; rw [if_pos c_1, if_neg c_4]
  exact W.iret (v := 22) hx hb hr (fun t ht hW => ⟨⟨22, [(h0, .inr (0, [.int a0, .int a1, .int a2, .int a3, .int a4, .int a5, .int a6, .int a7, .int a8, .int a9, .int a10, .int a11]))], rfl, ⟨ef.symm, rfl⟩, by rw [ht]; exact hP9, va_K.moved hW.alike hK9, hD9⟩, hS.F ht⟩) hS.2.2 dX0_statusOfBarredDouble_52
set_option maxHeartbeats 4000000 in
set_option maxRecDepth 100000 in
theorem ct_X0_statusOfNoRoom (l : Launch) (dC : Nat → ClassId) (dI : Nat → Nat → Nat) (h0 : Nat) (sz : Nat) (a0 a1 a2 a3 a4 a5 a6 a7 a8 a9 a10 a11 p0 : Int32) : Met l yX0_statusOfNoRoom wsX0_statusOfNoRoom ({ frames := 0, cells := 0, slots := 0, locals := 0 }) (va_Pc [.ref h0, .int p0] (fun U => U.heap.size = sz ∧ va_P (dC, dI) vwCl [(h0, .inr (0, [.int a0, .int a1, .int a2, .int a3, .int a4, .int a5, .int a6, .int a7, .int a8, .int a9, .int a10, .int a11]))] U.heap ∧ va_K (dC, dI) vwCl [] U ∧ va_D (fun _ => True) [(h0, .inr (0, [.int a0, .int a1, .int a2, .int a3, .int a4, .int a5, .int a6, .int a7, .int a8, .int a9, .int a10, .int a11]))])) (va_Qi (fun (r : Int32) (u : va_W) => r = fx_X0_statusOfNoRoom a0 p0 ∧ u = [(h0, .inr (0, [.int a0, .int a1, .int a2, .int a3, .int a4, .int a5, .int a6, .int a7, .int a8, .int a9, .int a10, .int a11]))]) (at_W dC dI (va_A [(h0, .inr (0, [.int a0, .int a1, .int a2, .int a3, .int a4, .int a5, .int a6, .int a7, .int a8, .int a9, .int a10, .int a11]))] sz)) (va_A [(h0, .inr (0, [.int a0, .int a1, .int a2, .int a3, .int a4, .int a5, .int a6, .int a7, .int a8, .int a9, .int a10, .int a11]))] sz)) 0 0 (va_A [(h0, .inr (0, [.int a0, .int a1, .int a2, .int a3, .int a4, .int a5, .int a6, .int a7, .int a8, .int a9, .int a10, .int a11]))] sz) := by
  refine Met.ofW (cc := cX0_statusOfNoRoom) (maxL := 2) (ret := (some .int)) (by decide) rfl ?_
  intro p e s m args below meth c s₁ B hml hv
  obtain ⟨rfl, hsz, hP, hK, hD0⟩ := hv
  have hx := B.exec
  have hb := B.bytes
  have hr := B.returns
  have hts := atoms_spec (ws := wsX0_statusOfNoRoom) B.pre
  have hown : s.vm.findClass RX0 = some m.cls := findClass_of_methodNamed B.named
  have hlocks := B.notSynchronized
  subst hsz
  have hD := hD0.self (sz := s.heap.size)
  generalize hAe : va_A [(h0, .inr (0, [.int a0, .int a1, .int a2, .int a3, .int a4, .int a5, .int a6, .int a7, .int a8, .int a9, .int a10, .int a11]))] s.heap.size = A at hD ⊢
  have hA : ∀ q : Nat, s.heap.size ≤ q → A q := fun q h => by rw [← hAe]; exact Or.inr h
  have hS : va_S A s.heap s.heap [] := va_S.rf
  have hP : va_P (dC, dI) vwCl [(h0, .inr (0, [.int a0, .int a1, .int a2, .int a3, .int a4, .int a5, .int a6, .int a7, .int a8, .int a9, .int a10, .int a11]))] s.heap := hP
  have hl := lv_entry ([.ref h0, .int p0]) (n := 2) (Nat.le_of_ble_eq_true rfl)
  rw [lg_entry_eq]
  generalize (lg_sl ([.ref h0, .int p0]) ++ List.replicate (2 - (lg_sl ([.ref h0, .int p0])).length) Slot.unset).toArray = ls at hl ⊢
  have hl : lv_has ls 2 [(0, .ref h0), (1, .int p0)] := hl
  refine lv_iload_n hx hb dX0_statusOfNoRoom_0 rfl (lv_at hl 1 rfl) ?_
  refine lv_iconst (v := 2) hx hb dX0_statusOfNoRoom_1 (by decide) ?_
  refine lv_icmp_ne (tgt := 20) hx hb dX0_statusOfNoRoom_2 (by decide) (fun c_1 => ?_) (fun c_1 => ?_)
  · refine lv_iload_n hx hb dX0_statusOfNoRoom_20 rfl (lv_at hl 1 rfl) ?_
    refine lv_if_ne (tgt := 37) hx hb dX0_statusOfNoRoom_21 (by decide) (fun c_2 => ?_) (fun c_2 => ?_)
    · refine lv_bipush (v := 90) hx hb dX0_statusOfNoRoom_37 (by decide) ?_
      have hP9 := hP.sub (ws' := [(h0, .inr (0, [.int a0, .int a1, .int a2, .int a3, .int a4, .int a5, .int a6, .int a7, .int a8, .int a9, .int a10, .int a11]))]) [0] rfl
      have hD9 := hD.sub (ws' := [(h0, .inr (0, [.int a0, .int a1, .int a2, .int a3, .int a4, .int a5, .int a6, .int a7, .int a8, .int a9, .int a10, .int a11]))]) [0] (by decide) rfl
      have hK9 := hK.sub (tys' := []) [] rfl
      have ef : fx_X0_statusOfNoRoom a0 p0 = 90 := by unfold fx_X0_statusOfNoRoom; rw [if_neg c_1, if_neg c_2]
      exact W.iret (v := 90) hx hb hr (fun t ht hW => ⟨⟨90, [(h0, .inr (0, [.int a0, .int a1, .int a2, .int a3, .int a4, .int a5, .int a6, .int a7, .int a8, .int a9, .int a10, .int a11]))], rfl, ⟨ef.symm, rfl⟩, by rw [ht]; exact hP9, va_K.moved hW.alike hK9, hD9⟩, hS.F ht⟩) hS.2.2 dX0_statusOfNoRoom_39
    refine lv_aload_n hx hb dX0_statusOfNoRoom_24 rfl (lv_at hl 0 rfl) ?_
    refine va_get (D := (dC, dI)) (ci := 0) (v := .int a0) (C := RX0) (T := TX0) (N := 12) hx hb hts (fun _ h => List.mem_cons_of_mem _ (List.mem_append_right _ h)) hown hK hP 0 rfl rfl 0 (by decide) (hts (.fieldLink RX0 53 "FileStatus" "organisation" "I") (by decide +kernel)) (fun _ h9 => h9) rfl dX0_statusOfNoRoom_25 ?_
    refine lv_iconst (v := 1) hx hb dX0_statusOfNoRoom_28 (by decide) ?_
    refine lv_icmp_ne (tgt := 37) hx hb dX0_statusOfNoRoom_29 (by decide) (fun c_3 => ?_) (fun c_3 => ?_)
    · refine lv_bipush (v := 90) hx hb dX0_statusOfNoRoom_37 (by decide) ?_
      have hP9 := hP.sub (ws' := [(h0, .inr (0, [.int a0, .int a1, .int a2, .int a3, .int a4, .int a5, .int a6, .int a7, .int a8, .int a9, .int a10, .int a11]))]) [0] rfl
      have hD9 := hD.sub (ws' := [(h0, .inr (0, [.int a0, .int a1, .int a2, .int a3, .int a4, .int a5, .int a6, .int a7, .int a8, .int a9, .int a10, .int a11]))]) [0] (by decide) rfl
      have hK9 := hK.sub (tys' := []) [] rfl
      have ef : fx_X0_statusOfNoRoom a0 p0 = 90 := by unfold fx_X0_statusOfNoRoom; rw [if_neg c_1, if_pos c_2, if_neg c_3]
      exact W.iret (v := 90) hx hb hr (fun t ht hW => ⟨⟨90, [(h0, .inr (0, [.int a0, .int a1, .int a2, .int a3, .int a4, .int a5, .int a6, .int a7, .int a8, .int a9, .int a10, .int a11]))], rfl, ⟨ef.symm, rfl⟩, by rw [ht]; exact hP9, va_K.moved hW.alike hK9, hD9⟩, hS.F ht⟩) hS.2.2 dX0_statusOfNoRoom_39
    refine lv_bipush (v := 14) hx hb dX0_statusOfNoRoom_32 (by decide) ?_
    refine lv_goto (tgt := 39) hx hb dX0_statusOfNoRoom_34 (by decide) ?_
    have hP9 := hP.sub (ws' := [(h0, .inr (0, [.int a0, .int a1, .int a2, .int a3, .int a4, .int a5, .int a6, .int a7, .int a8, .int a9, .int a10, .int a11]))]) [0] rfl
    have hD9 := hD.sub (ws' := [(h0, .inr (0, [.int a0, .int a1, .int a2, .int a3, .int a4, .int a5, .int a6, .int a7, .int a8, .int a9, .int a10, .int a11]))]) [0] (by decide) rfl
    have hK9 := hK.sub (tys' := []) [] rfl
    have ef : fx_X0_statusOfNoRoom a0 p0 = 14 := by unfold fx_X0_statusOfNoRoom; rw [if_neg c_1, if_pos c_2, if_pos c_3]
    exact W.iret (v := 14) hx hb hr (fun t ht hW => ⟨⟨14, [(h0, .inr (0, [.int a0, .int a1, .int a2, .int a3, .int a4, .int a5, .int a6, .int a7, .int a8, .int a9, .int a10, .int a11]))], rfl, ⟨ef.symm, rfl⟩, by rw [ht]; exact hP9, va_K.moved hW.alike hK9, hD9⟩, hS.F ht⟩) hS.2.2 dX0_statusOfNoRoom_39
  refine lv_aload_n hx hb dX0_statusOfNoRoom_5 rfl (lv_at hl 0 rfl) ?_
  refine va_get (D := (dC, dI)) (ci := 0) (v := .int a0) (C := RX0) (T := TX0) (N := 12) hx hb hts (fun _ h => List.mem_cons_of_mem _ (List.mem_append_right _ h)) hown hK hP 0 rfl rfl 0 (by decide) (hts (.fieldLink RX0 53 "FileStatus" "organisation" "I") (by decide +kernel)) (fun _ h9 => h9) rfl dX0_statusOfNoRoom_6 ?_
  refine lv_if_ne (tgt := 17) hx hb dX0_statusOfNoRoom_9 (by decide) (fun c_4 => ?_) (fun c_4 => ?_)
  · refine lv_bipush (v := 24) hx hb dX0_statusOfNoRoom_17 (by decide) ?_
    have hP9 := hP.sub (ws' := [(h0, .inr (0, [.int a0, .int a1, .int a2, .int a3, .int a4, .int a5, .int a6, .int a7, .int a8, .int a9, .int a10, .int a11]))]) [0] rfl
    have hD9 := hD.sub (ws' := [(h0, .inr (0, [.int a0, .int a1, .int a2, .int a3, .int a4, .int a5, .int a6, .int a7, .int a8, .int a9, .int a10, .int a11]))]) [0] (by decide) rfl
    have hK9 := hK.sub (tys' := []) [] rfl
    have ef : fx_X0_statusOfNoRoom a0 p0 = 24 := by unfold fx_X0_statusOfNoRoom; rw [if_pos c_1, if_neg c_4]
    exact W.iret (v := 24) hx hb hr (fun t ht hW => ⟨⟨24, [(h0, .inr (0, [.int a0, .int a1, .int a2, .int a3, .int a4, .int a5, .int a6, .int a7, .int a8, .int a9, .int a10, .int a11]))], rfl, ⟨ef.symm, rfl⟩, by rw [ht]; exact hP9, va_K.moved hW.alike hK9, hD9⟩, hS.F ht⟩) hS.2.2 dX0_statusOfNoRoom_19
  refine lv_bipush (v := 34) hx hb dX0_statusOfNoRoom_12 (by decide) ?_
  refine lv_goto (tgt := 19) hx hb dX0_statusOfNoRoom_14 (by decide) ?_
  have hP9 := hP.sub (ws' := [(h0, .inr (0, [.int a0, .int a1, .int a2, .int a3, .int a4, .int a5, .int a6, .int a7, .int a8, .int a9, .int a10, .int a11]))]) [0] rfl
  have hD9 := hD.sub (ws' := [(h0, .inr (0, [.int a0, .int a1, .int a2, .int a3, .int a4, .int a5, .int a6, .int a7, .int a8, .int a9, .int a10, .int a11]))]) [0] (by decide) rfl
  have hK9 := hK.sub (tys' := []) [] rfl
  have ef : fx_X0_statusOfNoRoom a0 p0 = 34 := by unfold fx_X0_statusOfNoRoom; rw [if_pos c_1, if_pos c_4]
  exact W.iret (v := 34) hx hb hr (fun t ht hW => ⟨⟨34, [(h0, .inr (0, [.int a0, .int a1, .int a2, .int a3, .int a4, .int a5, .int a6, .int a7, .int a8, .int a9, .int a10, .int a11]))], rfl, ⟨ef.symm, rfl⟩, by rw [ht]; exact hP9, va_K.moved hW.alike hK9, hD9⟩, hS.F ht⟩) hS.2.2 dX0_statusOfNoRoom_19
end
section
set_option maxHeartbeats 4000000 in
set_option maxRecDepth 100000 in
theorem ct_X0_remember (l : Launch) (dC : Nat → ClassId) (dI : Nat → Nat → Nat) (h0 : Nat) (sz : Nat) (a0 a1 a2 a3 a4 a5 a6 a7 a8 a9 a10 a11 p0 p1 : Int32) : Met l yX0_remember wsX0_remember ({ frames := 0, cells := 0, slots := 0, locals := 0 }) (va_Pc [.ref h0, .int p0, .int p1] (fun U => U.heap.size = sz ∧ va_P (dC, dI) vwCl [(h0, .inr (0, [.int a0, .int a1, .int a2, .int a3, .int a4, .int a5, .int a6, .int a7, .int a8, .int a9, .int a10, .int a11]))] U.heap ∧ va_K (dC, dI) vwCl [] U ∧ va_D (fun _ => True) [(h0, .inr (0, [.int a0, .int a1, .int a2, .int a3, .int a4, .int a5, .int a6, .int a7, .int a8, .int a9, .int a10, .int a11]))])) (va_Qv (fun u : va_W => u = [(h0, .inr (0, [.int a0, .int a1, .int a2, .int a3, .int a4, .int a5, .int a6, .int (gx_X0_remember_7 p1), .int (gx_X0_remember_8 p0), .int a9, .int (gx_X0_remember_10 a10 p0 p1), .int (gx_X0_remember_11 a11 p1)]))]) (at_W dC dI (va_A [(h0, .inr (0, [.int a0, .int a1, .int a2, .int a3, .int a4, .int a5, .int a6, .int a7, .int a8, .int a9, .int a10, .int a11]))] sz)) (va_A [(h0, .inr (0, [.int a0, .int a1, .int a2, .int a3, .int a4, .int a5, .int a6, .int a7, .int a8, .int a9, .int a10, .int a11]))] sz)) 0 0 (va_A [(h0, .inr (0, [.int a0, .int a1, .int a2, .int a3, .int a4, .int a5, .int a6, .int a7, .int a8, .int a9, .int a10, .int a11]))] sz) := by
  refine Met.ofW (cc := cX0_remember) (maxL := 3) (ret := none) (by decide) rfl ?_
  intro p e s m args below meth c s₁ B hml hv
  obtain ⟨rfl, hsz, hP, hK, hD0⟩ := hv
  have hx := B.exec
  have hb := B.bytes
  have hr := B.returns
  have hts := atoms_spec (ws := wsX0_remember) B.pre
  have hown : s.vm.findClass RX0 = some m.cls := findClass_of_methodNamed B.named
  have hlocks := B.notSynchronized
  subst hsz
  have hD := hD0.self (sz := s.heap.size)
  generalize hAe : va_A [(h0, .inr (0, [.int a0, .int a1, .int a2, .int a3, .int a4, .int a5, .int a6, .int a7, .int a8, .int a9, .int a10, .int a11]))] s.heap.size = A at hD ⊢
  have hA : ∀ q : Nat, s.heap.size ≤ q → A q := fun q h => by rw [← hAe]; exact Or.inr h
  have hS : va_S A s.heap s.heap [] := va_S.rf
  have hP : va_P (dC, dI) vwCl [(h0, .inr (0, [.int a0, .int a1, .int a2, .int a3, .int a4, .int a5, .int a6, .int a7, .int a8, .int a9, .int a10, .int a11]))] s.heap := hP
  have hl := lv_entry ([.ref h0, .int p0, .int p1]) (n := 3) (Nat.le_of_ble_eq_true rfl)
  rw [lg_entry_eq]
  generalize (lg_sl ([.ref h0, .int p0, .int p1]) ++ List.replicate (3 - (lg_sl ([.ref h0, .int p0, .int p1])).length) Slot.unset).toArray = ls at hl ⊢
  have hl : lv_has ls 3 [(0, .ref h0), (1, .int p0), (2, .int p1)] := hl
  refine lv_aload_n hx hb dX0_remember_0 rfl (lv_at hl 0 rfl) ?_
  refine lv_iload_n hx hb dX0_remember_1 rfl (lv_at hl 1 rfl) ?_
  refine va_put (D := (dC, dI)) (ci := 0) (v := .int p0) (ty := .int) (C := RX0) (T := TX0) (N := 12) hx hb hts (fun _ h => List.mem_cons_of_mem _ (List.mem_append_right _ h)) tyX0 tyX0_ok nmX0 hown hK hP hD hS 0 rfl rfl 8 (by decide) (hts (.fieldLink RX0 32 "FileStatus" "latestAct" "I") (by decide +kernel)) (fun _ h9 => h9) rfl (by decide +kernel) rfl rfl (Nat.le_of_ble_eq_true rfl) dX0_remember_2 (fun H locs hP hD hS => ?_)
  have hP : va_P (dC, dI) vwCl [(h0, .inr (0, [.int a0, .int a1, .int a2, .int a3, .int a4, .int a5, .int a6, .int a7, .int p0, .int a9, .int a10, .int a11]))] H := hP
  have hD : va_D A [(h0, .inr (0, [.int a0, .int a1, .int a2, .int a3, .int a4, .int a5, .int a6, .int a7, .int p0, .int a9, .int a10, .int a11]))] := hD
  refine lv_aload_n hx hb dX0_remember_5 rfl (lv_at hl 0 rfl) ?_
  refine lv_iload_n hx hb dX0_remember_6 rfl (lv_at hl 2 rfl) ?_
  refine va_put (D := (dC, dI)) (ci := 0) (v := .int p1) (ty := .int) (C := RX0) (T := TX0) (N := 12) hx hb hts (fun _ h => List.mem_cons_of_mem _ (List.mem_append_right _ h)) tyX0 tyX0_ok nmX0 hown hK hP hD hS 0 rfl rfl 7 (by decide) (hts (.fieldLink RX0 29 "FileStatus" "latestStatus" "I") (by decide +kernel)) (fun _ h9 => h9) rfl (by decide +kernel) rfl rfl (Nat.le_of_ble_eq_true rfl) dX0_remember_7 (fun H locs hP hD hS => ?_)
  have hP : va_P (dC, dI) vwCl [(h0, .inr (0, [.int a0, .int a1, .int a2, .int a3, .int a4, .int a5, .int a6, .int p1, .int p0, .int a9, .int a10, .int a11]))] H := hP
  have hD : va_D A [(h0, .inr (0, [.int a0, .int a1, .int a2, .int a3, .int a4, .int a5, .int a6, .int p1, .int p0, .int a9, .int a10, .int a11]))] := hD
  refine lv_iload_n hx hb dX0_remember_10 rfl (lv_at hl 2 rfl) ?_
  refine lv_bipush (v := 9) hx hb dX0_remember_11 (by decide) ?_
  refine lv_icmp_le (tgt := 29) hx hb dX0_remember_13 (by decide) (fun c_1 => ?_) (fun c_1 => ?_)
  · refine lv_iload_n hx hb dX0_remember_29 rfl (lv_at hl 1 rfl) ?_
    refine lv_bipush (v := 7) hx hb dX0_remember_30 (by decide) ?_
    refine lv_icmp_eq (tgt := 45) hx hb dX0_remember_32 (by decide) (fun c_2 => ?_) (fun c_2 => ?_)
    · have hP9 := hP.sub (ws' := [(h0, .inr (0, [.int a0, .int a1, .int a2, .int a3, .int a4, .int a5, .int a6, .int p1, .int p0, .int a9, .int a10, .int a11]))]) [0] rfl
      have hD9 := hD.sub (ws' := [(h0, .inr (0, [.int a0, .int a1, .int a2, .int a3, .int a4, .int a5, .int a6, .int p1, .int p0, .int a9, .int a10, .int a11]))]) [0] (by decide) rfl
      have hK9 := hK.sub (tys' := []) [] rfl
      have eg_7 : gx_X0_remember_7 p1 = p1 := by rfl
      have eg_8 : gx_X0_remember_8 p0 = p0 := by rfl
      have eg_10 : gx_X0_remember_10 a10 p0 p1 = a10 := by unfold gx_X0_remember_10; rw [if_pos c_1, if_pos c_2]
      have eg_11 : gx_X0_remember_11 a11 p1 = a11 := by unfold gx_X0_remember_11; rw [if_pos c_1]
      exact W.vret hx hb hr (fun t ht hW => ⟨⟨[(h0, .inr (0, [.int a0, .int a1, .int a2, .int a3, .int a4, .int a5, .int a6, .int p1, .int p0, .int a9, .int a10, .int a11]))], rfl, by rw [eg_7, eg_8, eg_10, eg_11], by rw [ht]; exact hP9, va_K.moved hW.alike hK9, hD9⟩, hS.F ht⟩) hS.2.2 dX0_remember_45
    refine lv_aload_n hx hb dX0_remember_35 rfl (lv_at hl 0 rfl) ?_
    refine lv_dup hx hb dX0_remember_36 rfl ?_
    refine va_get (D := (dC, dI)) (ci := 0) (v := .int a10) (C := RX0) (T := TX0) (N := 12) hx hb hts (fun _ h => List.mem_cons_of_mem _ (List.mem_append_right _ h)) hown hK hP 0 rfl rfl 10 (by decide) (hts (.fieldLink RX0 38 "FileStatus" "goodActs" "I") (by decide +kernel)) (fun _ h9 => h9) rfl dX0_remember_37 ?_
    refine lv_iconst (v := 1) hx hb dX0_remember_40 (by decide) ?_
    refine lv_iadd hx hb dX0_remember_41 ?_
    refine va_put (D := (dC, dI)) (ci := 0) (v := .int (a10 + 1)) (ty := .int) (C := RX0) (T := TX0) (N := 12) hx hb hts (fun _ h => List.mem_cons_of_mem _ (List.mem_append_right _ h)) tyX0 tyX0_ok nmX0 hown hK hP hD hS 0 rfl rfl 10 (by decide) (hts (.fieldLink RX0 38 "FileStatus" "goodActs" "I") (by decide +kernel)) (fun _ h9 => h9) rfl (by decide +kernel) rfl rfl (Nat.le_of_ble_eq_true rfl) dX0_remember_42 (fun H locs hP hD hS => ?_)
    have hP : va_P (dC, dI) vwCl [(h0, .inr (0, [.int a0, .int a1, .int a2, .int a3, .int a4, .int a5, .int a6, .int p1, .int p0, .int a9, .int (a10 + 1), .int a11]))] H := hP
    have hD : va_D A [(h0, .inr (0, [.int a0, .int a1, .int a2, .int a3, .int a4, .int a5, .int a6, .int p1, .int p0, .int a9, .int (a10 + 1), .int a11]))] := hD
    have hP9 := hP.sub (ws' := [(h0, .inr (0, [.int a0, .int a1, .int a2, .int a3, .int a4, .int a5, .int a6, .int p1, .int p0, .int a9, .int (a10 + 1), .int a11]))]) [0] rfl
    have hD9 := hD.sub (ws' := [(h0, .inr (0, [.int a0, .int a1, .int a2, .int a3, .int a4, .int a5, .int a6, .int p1, .int p0, .int a9, .int (a10 + 1), .int a11]))]) [0] (by decide) rfl
    have hK9 := hK.sub (tys' := []) [] rfl
    have eg_7 : gx_X0_remember_7 p1 = p1 := by rfl
    have eg_8 : gx_X0_remember_8 p0 = p0 := by rfl
    have eg_10 : gx_X0_remember_10 a10 p0 p1 = a10 + 1 := by unfold gx_X0_remember_10; rw [if_pos c_1, if_neg c_2]
    have eg_11 : gx_X0_remember_11 a11 p1 = a11 := by unfold gx_X0_remember_11; rw [if_pos c_1]
    exact W.vret hx hb hr (fun t ht hW => ⟨⟨[(h0, .inr (0, [.int a0, .int a1, .int a2, .int a3, .int a4, .int a5, .int a6, .int p1, .int p0, .int a9, .int (a10 + 1), .int a11]))], rfl, by rw [eg_7, eg_8, eg_10, eg_11], by rw [ht]; exact hP9, va_K.moved hW.alike hK9, hD9⟩, hS.F ht⟩) hS.2.2 dX0_remember_45
  refine lv_aload_n hx hb dX0_remember_16 rfl (lv_at hl 0 rfl) ?_
  refine lv_dup hx hb dX0_remember_17 rfl ?_
  refine va_get (D := (dC, dI)) (ci := 0) (v := .int a11) (C := RX0) (T := TX0) (N := 12) hx hb hts (fun _ h => List.mem_cons_of_mem _ (List.mem_append_right _ h)) hown hK hP 0 rfl rfl 11 (by decide) (hts (.fieldLink RX0 41 "FileStatus" "badActsAndOpenings" "I") (by decide +kernel)) (fun _ h9 => h9) rfl dX0_remember_18 ?_
  refine lv_iconst (v := 1) hx hb dX0_remember_21 (by decide) ?_
  refine lv_iadd hx hb dX0_remember_22 ?_
  refine va_put (D := (dC, dI)) (ci := 0) (v := .int (a11 + 1)) (ty := .int) (C := RX0) (T := TX0) (N := 12) hx hb hts (fun _ h => List.mem_cons_of_mem _ (List.mem_append_right _ h)) tyX0 tyX0_ok nmX0 hown hK hP hD hS 0 rfl rfl 11 (by decide) (hts (.fieldLink RX0 41 "FileStatus" "badActsAndOpenings" "I") (by decide +kernel)) (fun _ h9 => h9) rfl (by decide +kernel) rfl rfl (Nat.le_of_ble_eq_true rfl) dX0_remember_23 (fun H locs hP hD hS => ?_)
  have hP : va_P (dC, dI) vwCl [(h0, .inr (0, [.int a0, .int a1, .int a2, .int a3, .int a4, .int a5, .int a6, .int p1, .int p0, .int a9, .int a10, .int (a11 + 1)]))] H := hP
  have hD : va_D A [(h0, .inr (0, [.int a0, .int a1, .int a2, .int a3, .int a4, .int a5, .int a6, .int p1, .int p0, .int a9, .int a10, .int (a11 + 1)]))] := hD
  refine lv_goto (tgt := 45) hx hb dX0_remember_26 (by decide) ?_
  have hP9 := hP.sub (ws' := [(h0, .inr (0, [.int a0, .int a1, .int a2, .int a3, .int a4, .int a5, .int a6, .int p1, .int p0, .int a9, .int a10, .int (a11 + 1)]))]) [0] rfl
  have hD9 := hD.sub (ws' := [(h0, .inr (0, [.int a0, .int a1, .int a2, .int a3, .int a4, .int a5, .int a6, .int p1, .int p0, .int a9, .int a10, .int (a11 + 1)]))]) [0] (by decide) rfl
  have hK9 := hK.sub (tys' := []) [] rfl
  have eg_7 : gx_X0_remember_7 p1 = p1 := by rfl
  have eg_8 : gx_X0_remember_8 p0 = p0 := by rfl
  have eg_10 : gx_X0_remember_10 a10 p0 p1 = a10 := by unfold gx_X0_remember_10; rw [if_neg c_1]
  have eg_11 : gx_X0_remember_11 a11 p1 = a11 + 1 := by unfold gx_X0_remember_11; rw [if_neg c_1]
  exact W.vret hx hb hr (fun t ht hW => ⟨⟨[(h0, .inr (0, [.int a0, .int a1, .int a2, .int a3, .int a4, .int a5, .int a6, .int p1, .int p0, .int a9, .int a10, .int (a11 + 1)]))], rfl, by rw [eg_7, eg_8, eg_10, eg_11], by rw [ht]; exact hP9, va_K.moved hW.alike hK9, hD9⟩, hS.F ht⟩) hS.2.2 dX0_remember_45
set_option maxHeartbeats 4000000 in
set_option maxRecDepth 100000 in
theorem ct_X0_hasDeclarative (l : Launch) (dC : Nat → ClassId) (dI : Nat → Nat → Nat) (h0 : Nat) (sz : Nat) (a0 a1 a2 a3 a4 a5 a6 a7 a8 a9 a10 a11 p0 : Int32) : Met l yX0_hasDeclarative wsX0_hasDeclarative ({ frames := 0, cells := 0, slots := 0, locals := 0 }) (va_Pc [.ref h0, .int p0] (fun U => U.heap.size = sz ∧ va_P (dC, dI) vwCl [(h0, .inr (0, [.int a0, .int a1, .int a2, .int a3, .int a4, .int a5, .int a6, .int a7, .int a8, .int a9, .int a10, .int a11]))] U.heap ∧ va_K (dC, dI) vwCl [] U ∧ va_D (fun _ => True) [(h0, .inr (0, [.int a0, .int a1, .int a2, .int a3, .int a4, .int a5, .int a6, .int a7, .int a8, .int a9, .int a10, .int a11]))])) (va_Qi (fun (r : Int32) (u : va_W) => r = fx_X0_hasDeclarative a9 p0 ∧ u = [(h0, .inr (0, [.int a0, .int a1, .int a2, .int a3, .int a4, .int a5, .int a6, .int a7, .int a8, .int a9, .int a10, .int a11]))]) (at_W dC dI (va_A [(h0, .inr (0, [.int a0, .int a1, .int a2, .int a3, .int a4, .int a5, .int a6, .int a7, .int a8, .int a9, .int a10, .int a11]))] sz)) (va_A [(h0, .inr (0, [.int a0, .int a1, .int a2, .int a3, .int a4, .int a5, .int a6, .int a7, .int a8, .int a9, .int a10, .int a11]))] sz)) 0 0 (va_A [(h0, .inr (0, [.int a0, .int a1, .int a2, .int a3, .int a4, .int a5, .int a6, .int a7, .int a8, .int a9, .int a10, .int a11]))] sz) := by
  refine Met.ofW (cc := cX0_hasDeclarative) (maxL := 2) (ret := (some .boolean)) (by decide) rfl ?_
  intro p e s m args below meth c s₁ B hml hv
  obtain ⟨rfl, hsz, hP, hK, hD0⟩ := hv
  have hx := B.exec
  have hb := B.bytes
  have hr := B.returns
  have hts := atoms_spec (ws := wsX0_hasDeclarative) B.pre
  have hown : s.vm.findClass RX0 = some m.cls := findClass_of_methodNamed B.named
  have hlocks := B.notSynchronized
  subst hsz
  have hD := hD0.self (sz := s.heap.size)
  generalize hAe : va_A [(h0, .inr (0, [.int a0, .int a1, .int a2, .int a3, .int a4, .int a5, .int a6, .int a7, .int a8, .int a9, .int a10, .int a11]))] s.heap.size = A at hD ⊢
  have hA : ∀ q : Nat, s.heap.size ≤ q → A q := fun q h => by rw [← hAe]; exact Or.inr h
  have hS : va_S A s.heap s.heap [] := va_S.rf
  have hP : va_P (dC, dI) vwCl [(h0, .inr (0, [.int a0, .int a1, .int a2, .int a3, .int a4, .int a5, .int a6, .int a7, .int a8, .int a9, .int a10, .int a11]))] s.heap := hP
  have hl := lv_entry ([.ref h0, .int p0]) (n := 2) (Nat.le_of_ble_eq_true rfl)
  rw [lg_entry_eq]
  generalize (lg_sl ([.ref h0, .int p0]) ++ List.replicate (2 - (lg_sl ([.ref h0, .int p0])).length) Slot.unset).toArray = ls at hl ⊢
  have hl : lv_has ls 2 [(0, .ref h0), (1, .int p0)] := hl
  refine lv_aload_n hx hb dX0_hasDeclarative_0 rfl (lv_at hl 0 rfl) ?_
  refine va_get (D := (dC, dI)) (ci := 0) (v := .int a9) (C := RX0) (T := TX0) (N := 12) hx hb hts (fun _ h => List.mem_cons_of_mem _ (List.mem_append_right _ h)) hown hK hP 0 rfl rfl 9 (by decide) (hts (.fieldLink RX0 35 "FileStatus" "declaratives" "I") (by decide +kernel)) (fun _ h9 => h9) rfl dX0_hasDeclarative_1 ?_
  refine lv_iload_n hx hb dX0_hasDeclarative_4 rfl (lv_at hl 1 rfl) ?_
  refine lv_ishr hx hb dX0_hasDeclarative_5 ?_
  refine lv_iconst (v := 1) hx hb dX0_hasDeclarative_6 (by decide) ?_
  refine lv_iand hx hb dX0_hasDeclarative_7 ?_
  refine lv_iconst (v := 1) hx hb dX0_hasDeclarative_8 (by decide) ?_
  refine lv_icmp_ne (tgt := 16) hx hb dX0_hasDeclarative_9 (by decide) (fun c_1 => ?_) (fun c_1 => ?_)
  · refine lv_iconst (v := 0) hx hb dX0_hasDeclarative_16 (by decide) ?_
    have hP9 := hP.sub (ws' := [(h0, .inr (0, [.int a0, .int a1, .int a2, .int a3, .int a4, .int a5, .int a6, .int a7, .int a8, .int a9, .int a10, .int a11]))]) [0] rfl
    have hD9 := hD.sub (ws' := [(h0, .inr (0, [.int a0, .int a1, .int a2, .int a3, .int a4, .int a5, .int a6, .int a7, .int a8, .int a9, .int a10, .int a11]))]) [0] (by decide) rfl
    have hK9 := hK.sub (tys' := []) [] rfl
    have ef : fx_X0_hasDeclarative a9 p0 = 0 := by unfold fx_X0_hasDeclarative; rw [if_neg c_1]
    exact W.zret (v := 0) (ty := .boolean) hx hb hr rfl (fun t ht hW => ⟨⟨0, [(h0, .inr (0, [.int a0, .int a1, .int a2, .int a3, .int a4, .int a5, .int a6, .int a7, .int a8, .int a9, .int a10, .int a11]))], rfl, ⟨ef.symm, rfl⟩, by rw [ht]; exact hP9, va_K.moved hW.alike hK9, hD9⟩, hS.F ht⟩) hS.2.2 dX0_hasDeclarative_17
  refine lv_iconst (v := 1) hx hb dX0_hasDeclarative_12 (by decide) ?_
  refine lv_goto (tgt := 17) hx hb dX0_hasDeclarative_13 (by decide) ?_
  have hP9 := hP.sub (ws' := [(h0, .inr (0, [.int a0, .int a1, .int a2, .int a3, .int a4, .int a5, .int a6, .int a7, .int a8, .int a9, .int a10, .int a11]))]) [0] rfl
  have hD9 := hD.sub (ws' := [(h0, .inr (0, [.int a0, .int a1, .int a2, .int a3, .int a4, .int a5, .int a6, .int a7, .int a8, .int a9, .int a10, .int a11]))]) [0] (by decide) rfl
  have hK9 := hK.sub (tys' := []) [] rfl
  have ef : fx_X0_hasDeclarative a9 p0 = 1 := by unfold fx_X0_hasDeclarative; rw [if_pos c_1]
  exact W.zret (v := 1) (ty := .boolean) hx hb hr rfl (fun t ht hW => ⟨⟨1, [(h0, .inr (0, [.int a0, .int a1, .int a2, .int a3, .int a4, .int a5, .int a6, .int a7, .int a8, .int a9, .int a10, .int a11]))], rfl, ⟨ef.symm, rfl⟩, by rw [ht]; exact hP9, va_K.moved hW.alike hK9, hD9⟩, hS.F ht⟩) hS.2.2 dX0_hasDeclarative_17
set_option maxHeartbeats 4000000 in
set_option maxRecDepth 100000 in
theorem ct_X0_isForReading (l : Launch) (dC : Nat → ClassId) (dI : Nat → Nat → Nat) (h0 : Nat) (sz : Nat) (a0 a1 a2 a3 a4 a5 a6 a7 a8 a9 a10 a11 : Int32) : Met l yX0_isForReading wsX0_isForReading ({ frames := 0, cells := 0, slots := 0, locals := 0 }) (va_Pc [.ref h0] (fun U => U.heap.size = sz ∧ va_P (dC, dI) vwCl [(h0, .inr (0, [.int a0, .int a1, .int a2, .int a3, .int a4, .int a5, .int a6, .int a7, .int a8, .int a9, .int a10, .int a11]))] U.heap ∧ va_K (dC, dI) vwCl [] U ∧ va_D (fun _ => True) [(h0, .inr (0, [.int a0, .int a1, .int a2, .int a3, .int a4, .int a5, .int a6, .int a7, .int a8, .int a9, .int a10, .int a11]))])) (va_Qi (fun (r : Int32) (u : va_W) => r = fx_X0_isForReading a1 ∧ u = [(h0, .inr (0, [.int a0, .int a1, .int a2, .int a3, .int a4, .int a5, .int a6, .int a7, .int a8, .int a9, .int a10, .int a11]))]) (at_W dC dI (va_A [(h0, .inr (0, [.int a0, .int a1, .int a2, .int a3, .int a4, .int a5, .int a6, .int a7, .int a8, .int a9, .int a10, .int a11]))] sz)) (va_A [(h0, .inr (0, [.int a0, .int a1, .int a2, .int a3, .int a4, .int a5, .int a6, .int a7, .int a8, .int a9, .int a10, .int a11]))] sz)) 0 0 (va_A [(h0, .inr (0, [.int a0, .int a1, .int a2, .int a3, .int a4, .int a5, .int a6, .int a7, .int a8, .int a9, .int a10, .int a11]))] sz) := by
  refine Met.ofW (cc := cX0_isForReading) (maxL := 1) (ret := (some .boolean)) (by decide) rfl ?_
  intro p e s m args below meth c s₁ B hml hv
  obtain ⟨rfl, hsz, hP, hK, hD0⟩ := hv
  have hx := B.exec
  have hb := B.bytes
  have hr := B.returns
  have hts := atoms_spec (ws := wsX0_isForReading) B.pre
  have hown : s.vm.findClass RX0 = some m.cls := findClass_of_methodNamed B.named
  have hlocks := B.notSynchronized
  subst hsz
  have hD := hD0.self (sz := s.heap.size)
  generalize hAe : va_A [(h0, .inr (0, [.int a0, .int a1, .int a2, .int a3, .int a4, .int a5, .int a6, .int a7, .int a8, .int a9, .int a10, .int a11]))] s.heap.size = A at hD ⊢
  have hA : ∀ q : Nat, s.heap.size ≤ q → A q := fun q h => by rw [← hAe]; exact Or.inr h
  have hS : va_S A s.heap s.heap [] := va_S.rf
  have hP : va_P (dC, dI) vwCl [(h0, .inr (0, [.int a0, .int a1, .int a2, .int a3, .int a4, .int a5, .int a6, .int a7, .int a8, .int a9, .int a10, .int a11]))] s.heap := hP
  have hl := lv_entry ([.ref h0]) (n := 1) (Nat.le_of_ble_eq_true rfl)
  rw [lg_entry_eq]
  generalize (lg_sl ([.ref h0]) ++ List.replicate (1 - (lg_sl ([.ref h0])).length) Slot.unset).toArray = ls at hl ⊢
  have hl : lv_has ls 1 [(0, .ref h0)] := hl
  refine lv_aload_n hx hb dX0_isForReading_0 rfl (lv_at hl 0 rfl) ?_
  refine va_get (D := (dC, dI)) (ci := 0) (v := .int a1) (C := RX0) (T := TX0) (N := 12) hx hb hts (fun _ h => List.mem_cons_of_mem _ (List.mem_append_right _ h)) hown hK hP 0 rfl rfl 1 (by decide) (hts (.fieldLink RX0 9 "FileStatus" "chosenMode" "I") (by decide +kernel)) (fun _ h9 => h9) rfl dX0_isForReading_1 ?_
  refine lv_if_eq (tgt := 15) hx hb dX0_isForReading_4 (by decide) (fun c_1 => ?_) (fun c_1 => ?_)
  · refine lv_iconst (v := 1) hx hb dX0_isForReading_15 (by decide) ?_
    refine lv_goto (tgt := 20) hx hb dX0_isForReading_16 (by decide) ?_
    have hP9 := hP.sub (ws' := [(h0, .inr (0, [.int a0, .int a1, .int a2, .int a3, .int a4, .int a5, .int a6, .int a7, .int a8, .int a9, .int a10, .int a11]))]) [0] rfl
    have hD9 := hD.sub (ws' := [(h0, .inr (0, [.int a0, .int a1, .int a2, .int a3, .int a4, .int a5, .int a6, .int a7, .int a8, .int a9, .int a10, .int a11]))]) [0] (by decide) rfl
    have hK9 := hK.sub (tys' := []) [] rfl
    have ef : fx_X0_isForReading a1 = 1 := by unfold fx_X0_isForReading; rw [if_pos c_1]
    exact W.zret (v := 1) (ty := .boolean) hx hb hr rfl (fun t ht hW => ⟨⟨1, [(h0, .inr (0, [.int a0, .int a1, .int a2, .int a3, .int a4, .int a5, .int a6, .int a7, .int a8, .int a9, .int a10, .int a11]))], rfl, ⟨ef.symm, rfl⟩, by rw [ht]; exact hP9, va_K.moved hW.alike hK9, hD9⟩, hS.F ht⟩) hS.2.2 dX0_isForReading_20
  refine lv_aload_n hx hb dX0_isForReading_7 rfl (lv_at hl 0 rfl) ?_
  refine va_get (D := (dC, dI)) (ci := 0) (v := .int a1) (C := RX0) (T := TX0) (N := 12) hx hb hts (fun _ h => List.mem_cons_of_mem _ (List.mem_append_right _ h)) hown hK hP 0 rfl rfl 1 (by decide) (hts (.fieldLink RX0 9 "FileStatus" "chosenMode" "I") (by decide +kernel)) (fun _ h9 => h9) rfl dX0_isForReading_8 ?_
  refine lv_iconst (v := 2) hx hb dX0_isForReading_11 (by decide) ?_
  refine lv_icmp_ne (tgt := 19) hx hb dX0_isForReading_12 (by decide) (fun c_2 => ?_) (fun c_2 => ?_)
  · refine lv_iconst (v := 0) hx hb dX0_isForReading_19 (by decide) ?_
    have hP9 := hP.sub (ws' := [(h0, .inr (0, [.int a0, .int a1, .int a2, .int a3, .int a4, .int a5, .int a6, .int a7, .int a8, .int a9, .int a10, .int a11]))]) [0] rfl
    have hD9 := hD.sub (ws' := [(h0, .inr (0, [.int a0, .int a1, .int a2, .int a3, .int a4, .int a5, .int a6, .int a7, .int a8, .int a9, .int a10, .int a11]))]) [0] (by decide) rfl
    have hK9 := hK.sub (tys' := []) [] rfl
    have ef : fx_X0_isForReading a1 = 0 := by unfold fx_X0_isForReading; rw [if_neg c_1, if_neg c_2]
    exact W.zret (v := 0) (ty := .boolean) hx hb hr rfl (fun t ht hW => ⟨⟨0, [(h0, .inr (0, [.int a0, .int a1, .int a2, .int a3, .int a4, .int a5, .int a6, .int a7, .int a8, .int a9, .int a10, .int a11]))], rfl, ⟨ef.symm, rfl⟩, by rw [ht]; exact hP9, va_K.moved hW.alike hK9, hD9⟩, hS.F ht⟩) hS.2.2 dX0_isForReading_20
  refine lv_iconst (v := 1) hx hb dX0_isForReading_15 (by decide) ?_
  refine lv_goto (tgt := 20) hx hb dX0_isForReading_16 (by decide) ?_
  have hP9 := hP.sub (ws' := [(h0, .inr (0, [.int a0, .int a1, .int a2, .int a3, .int a4, .int a5, .int a6, .int a7, .int a8, .int a9, .int a10, .int a11]))]) [0] rfl
  have hD9 := hD.sub (ws' := [(h0, .inr (0, [.int a0, .int a1, .int a2, .int a3, .int a4, .int a5, .int a6, .int a7, .int a8, .int a9, .int a10, .int a11]))]) [0] (by decide) rfl
  have hK9 := hK.sub (tys' := []) [] rfl
  have ef : fx_X0_isForReading a1 = 1 := by unfold fx_X0_isForReading; rw [if_neg c_1, if_pos c_2]
  exact W.zret (v := 1) (ty := .boolean) hx hb hr rfl (fun t ht hW => ⟨⟨1, [(h0, .inr (0, [.int a0, .int a1, .int a2, .int a3, .int a4, .int a5, .int a6, .int a7, .int a8, .int a9, .int a10, .int a11]))], rfl, ⟨ef.symm, rfl⟩, by rw [ht]; exact hP9, va_K.moved hW.alike hK9, hD9⟩, hS.F ht⟩) hS.2.2 dX0_isForReading_20
set_option maxHeartbeats 4000000 in
set_option maxRecDepth 100000 in
theorem ct_X0_isForWriting (l : Launch) (dC : Nat → ClassId) (dI : Nat → Nat → Nat) (h0 : Nat) (sz : Nat) (a0 a1 a2 a3 a4 a5 a6 a7 a8 a9 a10 a11 : Int32) : Met l yX0_isForWriting wsX0_isForWriting ({ frames := 0, cells := 0, slots := 0, locals := 0 }) (va_Pc [.ref h0] (fun U => U.heap.size = sz ∧ va_P (dC, dI) vwCl [(h0, .inr (0, [.int a0, .int a1, .int a2, .int a3, .int a4, .int a5, .int a6, .int a7, .int a8, .int a9, .int a10, .int a11]))] U.heap ∧ va_K (dC, dI) vwCl [] U ∧ va_D (fun _ => True) [(h0, .inr (0, [.int a0, .int a1, .int a2, .int a3, .int a4, .int a5, .int a6, .int a7, .int a8, .int a9, .int a10, .int a11]))])) (va_Qi (fun (r : Int32) (u : va_W) => r = fx_X0_isForWriting a0 a1 ∧ u = [(h0, .inr (0, [.int a0, .int a1, .int a2, .int a3, .int a4, .int a5, .int a6, .int a7, .int a8, .int a9, .int a10, .int a11]))]) (at_W dC dI (va_A [(h0, .inr (0, [.int a0, .int a1, .int a2, .int a3, .int a4, .int a5, .int a6, .int a7, .int a8, .int a9, .int a10, .int a11]))] sz)) (va_A [(h0, .inr (0, [.int a0, .int a1, .int a2, .int a3, .int a4, .int a5, .int a6, .int a7, .int a8, .int a9, .int a10, .int a11]))] sz)) 0 0 (va_A [(h0, .inr (0, [.int a0, .int a1, .int a2, .int a3, .int a4, .int a5, .int a6, .int a7, .int a8, .int a9, .int a10, .int a11]))] sz) := by
  refine Met.ofW (cc := cX0_isForWriting) (maxL := 1) (ret := (some .boolean)) (by decide) rfl ?_
  intro p e s m args below meth c s₁ B hml hv
  obtain ⟨rfl, hsz, hP, hK, hD0⟩ := hv
  have hx := B.exec
  have hb := B.bytes
  have hr := B.returns
  have hts := atoms_spec (ws := wsX0_isForWriting) B.pre
  have hown : s.vm.findClass RX0 = some m.cls := findClass_of_methodNamed B.named
  have hlocks := B.notSynchronized
  subst hsz
  have hD := hD0.self (sz := s.heap.size)
  generalize hAe : va_A [(h0, .inr (0, [.int a0, .int a1, .int a2, .int a3, .int a4, .int a5, .int a6, .int a7, .int a8, .int a9, .int a10, .int a11]))] s.heap.size = A at hD ⊢
  have hA : ∀ q : Nat, s.heap.size ≤ q → A q := fun q h => by rw [← hAe]; exact Or.inr h
  have hS : va_S A s.heap s.heap [] := va_S.rf
  have hP : va_P (dC, dI) vwCl [(h0, .inr (0, [.int a0, .int a1, .int a2, .int a3, .int a4, .int a5, .int a6, .int a7, .int a8, .int a9, .int a10, .int a11]))] s.heap := hP
  have hl := lv_entry ([.ref h0]) (n := 1) (Nat.le_of_ble_eq_true rfl)
  rw [lg_entry_eq]
  generalize (lg_sl ([.ref h0]) ++ List.replicate (1 - (lg_sl ([.ref h0])).length) Slot.unset).toArray = ls at hl ⊢
  have hl : lv_has ls 1 [(0, .ref h0)] := hl
  refine lv_aload_n hx hb dX0_isForWriting_0 rfl (lv_at hl 0 rfl) ?_
  refine va_get (D := (dC, dI)) (ci := 0) (v := .int a1) (C := RX0) (T := TX0) (N := 12) hx hb hts (fun _ h => List.mem_cons_of_mem _ (List.mem_append_right _ h)) hown hK hP 0 rfl rfl 1 (by decide) (hts (.fieldLink RX0 9 "FileStatus" "chosenMode" "I") (by decide +kernel)) (fun _ h9 => h9) rfl dX0_isForWriting_1 ?_
  refine lv_iconst (v := 1) hx hb dX0_isForWriting_4 (by decide) ?_
  refine lv_icmp_eq (tgt := 31) hx hb dX0_isForWriting_5 (by decide) (fun c_1 => ?_) (fun c_1 => ?_)
  · refine lv_iconst (v := 1) hx hb dX0_isForWriting_31 (by decide) ?_
    refine lv_goto (tgt := 36) hx hb dX0_isForWriting_32 (by decide) ?_
    have hP9 := hP.sub (ws' := [(h0, .inr (0, [.int a0, .int a1, .int a2, .int a3, .int a4, .int a5, .int a6, .int a7, .int a8, .int a9, .int a10, .int a11]))]) [0] rfl
    have hD9 := hD.sub (ws' := [(h0, .inr (0, [.int a0, .int a1, .int a2, .int a3, .int a4, .int a5, .int a6, .int a7, .int a8, .int a9, .int a10, .int a11]))]) [0] (by decide) rfl
    have hK9 := hK.sub (tys' := []) [] rfl
    have ef : fx_X0_isForWriting a0 a1 = 1 := by unfold fx_X0_isForWriting; rw [if_pos c_1]
    exact W.zret (v := 1) (ty := .boolean) hx hb hr rfl (fun t ht hW => ⟨⟨1, [(h0, .inr (0, [.int a0, .int a1, .int a2, .int a3, .int a4, .int a5, .int a6, .int a7, .int a8, .int a9, .int a10, .int a11]))], rfl, ⟨ef.symm, rfl⟩, by rw [ht]; exact hP9, va_K.moved hW.alike hK9, hD9⟩, hS.F ht⟩) hS.2.2 dX0_isForWriting_36
  refine lv_aload_n hx hb dX0_isForWriting_8 rfl (lv_at hl 0 rfl) ?_
  refine va_get (D := (dC, dI)) (ci := 0) (v := .int a1) (C := RX0) (T := TX0) (N := 12) hx hb hts (fun _ h => List.mem_cons_of_mem _ (List.mem_append_right _ h)) hown hK hP 0 rfl rfl 1 (by decide) (hts (.fieldLink RX0 9 "FileStatus" "chosenMode" "I") (by decide +kernel)) (fun _ h9 => h9) rfl dX0_isForWriting_9 ?_
  refine lv_iconst (v := 3) hx hb dX0_isForWriting_12 (by decide) ?_
  refine lv_icmp_eq (tgt := 31) hx hb dX0_isForWriting_13 (by decide) (fun c_2 => ?_) (fun c_2 => ?_)
  · refine lv_iconst (v := 1) hx hb dX0_isForWriting_31 (by decide) ?_
    refine lv_goto (tgt := 36) hx hb dX0_isForWriting_32 (by decide) ?_
    have hP9 := hP.sub (ws' := [(h0, .inr (0, [.int a0, .int a1, .int a2, .int a3, .int a4, .int a5, .int a6, .int a7, .int a8, .int a9, .int a10, .int a11]))]) [0] rfl
    have hD9 := hD.sub (ws' := [(h0, .inr (0, [.int a0, .int a1, .int a2, .int a3, .int a4, .int a5, .int a6, .int a7, .int a8, .int a9, .int a10, .int a11]))]) [0] (by decide) rfl
    have hK9 := hK.sub (tys' := []) [] rfl
    have ef : fx_X0_isForWriting a0 a1 = 1 := by unfold fx_X0_isForWriting; rw [if_neg c_1, if_pos c_2]
    exact W.zret (v := 1) (ty := .boolean) hx hb hr rfl (fun t ht hW => ⟨⟨1, [(h0, .inr (0, [.int a0, .int a1, .int a2, .int a3, .int a4, .int a5, .int a6, .int a7, .int a8, .int a9, .int a10, .int a11]))], rfl, ⟨ef.symm, rfl⟩, by rw [ht]; exact hP9, va_K.moved hW.alike hK9, hD9⟩, hS.F ht⟩) hS.2.2 dX0_isForWriting_36
  refine lv_aload_n hx hb dX0_isForWriting_16 rfl (lv_at hl 0 rfl) ?_
  refine va_get (D := (dC, dI)) (ci := 0) (v := .int a1) (C := RX0) (T := TX0) (N := 12) hx hb hts (fun _ h => List.mem_cons_of_mem _ (List.mem_append_right _ h)) hown hK hP 0 rfl rfl 1 (by decide) (hts (.fieldLink RX0 9 "FileStatus" "chosenMode" "I") (by decide +kernel)) (fun _ h9 => h9) rfl dX0_isForWriting_17 ?_
  refine lv_iconst (v := 2) hx hb dX0_isForWriting_20 (by decide) ?_
  refine lv_icmp_ne (tgt := 35) hx hb dX0_isForWriting_21 (by decide) (fun c_3 => ?_) (fun c_3 => ?_)
  · refine lv_iconst (v := 0) hx hb dX0_isForWriting_35 (by decide) ?_
    have hP9 := hP.sub (ws' := [(h0, .inr (0, [.int a0, .int a1, .int a2, .int a3, .int a4, .int a5, .int a6, .int a7, .int a8, .int a9, .int a10, .int a11]))]) [0] rfl
    have hD9 := hD.sub (ws' := [(h0, .inr (0, [.int a0, .int a1, .int a2, .int a3, .int a4, .int a5, .int a6, .int a7, .int a8, .int a9, .int a10, .int a11]))]) [0] (by decide) rfl
    have hK9 := hK.sub (tys' := []) [] rfl
    have ef : fx_X0_isForWriting a0 a1 = 0 := by unfold fx_X0_isForWriting; rw [if_neg c_1, if_neg c_2, if_neg c_3]
    exact W.zret (v := 0) (ty := .boolean) hx hb hr rfl (fun t ht hW => ⟨⟨0, [(h0, .inr (0, [.int a0, .int a1, .int a2, .int a3, .int a4, .int a5, .int a6, .int a7, .int a8, .int a9, .int a10, .int a11]))], rfl, ⟨ef.symm, rfl⟩, by rw [ht]; exact hP9, va_K.moved hW.alike hK9, hD9⟩, hS.F ht⟩) hS.2.2 dX0_isForWriting_36
  refine lv_aload_n hx hb dX0_isForWriting_24 rfl (lv_at hl 0 rfl) ?_
  refine va_get (D := (dC, dI)) (ci := 0) (v := .int a0) (C := RX0) (T := TX0) (N := 12) hx hb hts (fun _ h => List.mem_cons_of_mem _ (List.mem_append_right _ h)) hown hK hP 0 rfl rfl 0 (by decide) (hts (.fieldLink RX0 53 "FileStatus" "organisation" "I") (by decide +kernel)) (fun _ h9 => h9) rfl dX0_isForWriting_25 ?_
  refine lv_if_eq (tgt := 35) hx hb dX0_isForWriting_28 (by decide) (fun c_4 => ?_) (fun c_4 => ?_)
  · refine lv_iconst (v := 0) hx hb dX0_isForWriting_35 (by decide) ?_
    have hP9 := hP.sub (ws' := [(h0, .inr (0, [.int a0, .int a1, .int a2, .int a3, .int a4, .int a5, .int a6, .int a7, .int a8, .int a9, .int a10, .int a11]))]) [0] rfl
    have hD9 := hD.sub (ws' := [(h0, .inr (0, [.int a0, .int a1, .int a2, .int a3, .int a4, .int a5, .int a6, .int a7, .int a8, .int a9, .int a10, .int a11]))]) [0] (by decide) rfl
    have hK9 := hK.sub (tys' := []) [] rfl
    have ef : fx_X0_isForWriting a0 a1 = 0 := by unfold fx_X0_isForWriting; rw [if_neg c_1, if_neg c_2, if_pos c_3, if_pos c_4]
    exact W.zret (v := 0) (ty := .boolean) hx hb hr rfl (fun t ht hW => ⟨⟨0, [(h0, .inr (0, [.int a0, .int a1, .int a2, .int a3, .int a4, .int a5, .int a6, .int a7, .int a8, .int a9, .int a10, .int a11]))], rfl, ⟨ef.symm, rfl⟩, by rw [ht]; exact hP9, va_K.moved hW.alike hK9, hD9⟩, hS.F ht⟩) hS.2.2 dX0_isForWriting_36
  refine lv_iconst (v := 1) hx hb dX0_isForWriting_31 (by decide) ?_
  refine lv_goto (tgt := 36) hx hb dX0_isForWriting_32 (by decide) ?_
  have hP9 := hP.sub (ws' := [(h0, .inr (0, [.int a0, .int a1, .int a2, .int a3, .int a4, .int a5, .int a6, .int a7, .int a8, .int a9, .int a10, .int a11]))]) [0] rfl
  have hD9 := hD.sub (ws' := [(h0, .inr (0, [.int a0, .int a1, .int a2, .int a3, .int a4, .int a5, .int a6, .int a7, .int a8, .int a9, .int a10, .int a11]))]) [0] (by decide) rfl
  have hK9 := hK.sub (tys' := []) [] rfl
  have ef : fx_X0_isForWriting a0 a1 = 1 := by unfold fx_X0_isForWriting; rw [if_neg c_1, if_neg c_2, if_pos c_3, if_neg c_4]
  exact W.zret (v := 1) (ty := .boolean) hx hb hr rfl (fun t ht hW => ⟨⟨1, [(h0, .inr (0, [.int a0, .int a1, .int a2, .int a3, .int a4, .int a5, .int a6, .int a7, .int a8, .int a9, .int a10, .int a11]))], rfl, ⟨ef.symm, rfl⟩, by rw [ht]; exact hP9, va_K.moved hW.alike hK9, hD9⟩, hS.F ht⟩) hS.2.2 dX0_isForWriting_36
set_option maxHeartbeats 4000000 in
set_option maxRecDepth 100000 in
theorem ct_X0_givesPlace (l : Launch) (dC : Nat → ClassId) (dI : Nat → Nat → Nat) (sz : Nat) (p0 : Int32) : Met l yX0_givesPlace wsX0_givesPlace ({ frames := 0, cells := 0, slots := 0, locals := 0 }) (va_Pc [.int p0] (fun U => U.heap.size = sz ∧ va_P (dC, dI) vwCl [] U.heap ∧ va_K (dC, dI) vwCl [] U ∧ va_D (fun _ => True) [])) (va_Qi (fun (r : Int32) (u : va_W) => r = fx_X0_givesPlace p0 ∧ u = []) (at_W dC dI (va_A [] sz)) (va_A [] sz)) 0 0 (va_A [] sz) := by
  refine Met.ofW (cc := cX0_givesPlace) (maxL := 1) (ret := (some .boolean)) (by decide) rfl ?_
  intro p e s m args below meth c s₁ B hml hv
  obtain ⟨rfl, hsz, hP, hK, hD0⟩ := hv
  have hx := B.exec
  have hb := B.bytes
  have hr := B.returns
  have hts := atoms_spec (ws := wsX0_givesPlace) B.pre
  have hown : s.vm.findClass RX0 = some m.cls := findClass_of_methodNamed B.named
  have hlocks := B.notSynchronized
  subst hsz
  have hD := hD0.self (sz := s.heap.size)
  generalize hAe : va_A [] s.heap.size = A at hD ⊢
  have hA : ∀ q : Nat, s.heap.size ≤ q → A q := fun q h => by rw [← hAe]; exact Or.inr h
  have hS : va_S A s.heap s.heap [] := va_S.rf
  have hP : va_P (dC, dI) vwCl [] s.heap := hP
  have hl := lv_entry ([.int p0]) (n := 1) (Nat.le_of_ble_eq_true rfl)
  rw [lg_entry_eq]
  generalize (lg_sl ([.int p0]) ++ List.replicate (1 - (lg_sl ([.int p0])).length) Slot.unset).toArray = ls at hl ⊢
  have hl : lv_has ls 1 [(0, .int p0)] := hl
  refine lv_iload_n hx hb dX0_givesPlace_0 rfl (lv_at hl 0 rfl) ?_
  refine lv_if_eq (tgt := 14) hx hb dX0_givesPlace_1 (by decide) (fun c_1 => ?_) (fun c_1 => ?_)
  · refine lv_iconst (v := 1) hx hb dX0_givesPlace_14 (by decide) ?_
    refine lv_goto (tgt := 19) hx hb dX0_givesPlace_15 (by decide) ?_
    have hP9 := hP.sub (ws' := []) [] rfl
    have hD9 := hD.sub (ws' := []) [] (by decide) rfl
    have hK9 := hK.sub (tys' := []) [] rfl
    have ef : fx_X0_givesPlace p0 = 1 := by unfold fx_X0_givesPlace; rw [if_pos c_1]
    exact W.zret (v := 1) (ty := .boolean) hx hb hr rfl (fun t ht hW => ⟨⟨1, [], rfl, ⟨ef.symm, rfl⟩, by rw [ht]; exact hP9, va_K.moved hW.alike hK9, hD9⟩, hS.F ht⟩) hS.2.2 dX0_givesPlace_19
  refine lv_iload_n hx hb dX0_givesPlace_4 rfl (lv_at hl 0 rfl) ?_
  refine lv_iconst (v := 2) hx hb dX0_givesPlace_5 (by decide) ?_
  refine lv_icmp_eq (tgt := 14) hx hb dX0_givesPlace_6 (by decide) (fun c_2 => ?_) (fun c_2 => ?_)
  · refine lv_iconst (v := 1) hx hb dX0_givesPlace_14 (by decide) ?_
    refine lv_goto (tgt := 19) hx hb dX0_givesPlace_15 (by decide) ?_
    have hP9 := hP.sub (ws' := []) [] rfl
    have hD9 := hD.sub (ws' := []) [] (by decide) rfl
    have hK9 := hK.sub (tys' := []) [] rfl
    have ef : fx_X0_givesPlace p0 = 1 := by unfold fx_X0_givesPlace; rw [if_neg c_1, if_pos c_2]
    exact W.zret (v := 1) (ty := .boolean) hx hb hr rfl (fun t ht hW => ⟨⟨1, [], rfl, ⟨ef.symm, rfl⟩, by rw [ht]; exact hP9, va_K.moved hW.alike hK9, hD9⟩, hS.F ht⟩) hS.2.2 dX0_givesPlace_19
  refine lv_iload_n hx hb dX0_givesPlace_9 rfl (lv_at hl 0 rfl) ?_
  refine lv_iconst (v := 4) hx hb dX0_givesPlace_10 (by decide) ?_
  refine lv_icmp_ne (tgt := 18) hx hb dX0_givesPlace_11 (by decide) (fun c_3 => ?_) (fun c_3 => ?_)
  · refine lv_iconst (v := 0) hx hb dX0_givesPlace_18 (by decide) ?_
    have hP9 := hP.sub (ws' := []) [] rfl
    have hD9 := hD.sub (ws' := []) [] (by decide) rfl
    have hK9 := hK.sub (tys' := []) [] rfl
    have ef : fx_X0_givesPlace p0 = 0 := by unfold fx_X0_givesPlace; rw [if_neg c_1, if_neg c_2, if_neg c_3]
    exact W.zret (v := 0) (ty := .boolean) hx hb hr rfl (fun t ht hW => ⟨⟨0, [], rfl, ⟨ef.symm, rfl⟩, by rw [ht]; exact hP9, va_K.moved hW.alike hK9, hD9⟩, hS.F ht⟩) hS.2.2 dX0_givesPlace_19
  refine lv_iconst (v := 1) hx hb dX0_givesPlace_14 (by decide) ?_
  refine lv_goto (tgt := 19) hx hb dX0_givesPlace_15 (by decide) ?_
  have hP9 := hP.sub (ws' := []) [] rfl
  have hD9 := hD.sub (ws' := []) [] (by decide) rfl
  have hK9 := hK.sub (tys' := []) [] rfl
  have ef : fx_X0_givesPlace p0 = 1 := by unfold fx_X0_givesPlace; rw [if_neg c_1, if_neg c_2, if_pos c_3]
  exact W.zret (v := 1) (ty := .boolean) hx hb hr rfl (fun t ht hW => ⟨⟨1, [], rfl, ⟨ef.symm, rfl⟩, by rw [ht]; exact hP9, va_K.moved hW.alike hK9, hD9⟩, hS.F ht⟩) hS.2.2 dX0_givesPlace_19
set_option maxHeartbeats 4000000 in
set_option maxRecDepth 100000 in
theorem ct_X0_isRead (l : Launch) (dC : Nat → ClassId) (dI : Nat → Nat → Nat) (sz : Nat) (p0 : Int32) : Met l yX0_isRead wsX0_isRead ({ frames := 0, cells := 0, slots := 0, locals := 0 }) (va_Pc [.int p0] (fun U => U.heap.size = sz ∧ va_P (dC, dI) vwCl [] U.heap ∧ va_K (dC, dI) vwCl [] U ∧ va_D (fun _ => True) [])) (va_Qi (fun (r : Int32) (u : va_W) => r = fx_X0_isRead p0 ∧ u = []) (at_W dC dI (va_A [] sz)) (va_A [] sz)) 0 0 (va_A [] sz) := by
  refine Met.ofW (cc := cX0_isRead) (maxL := 1) (ret := (some .boolean)) (by decide) rfl ?_
  intro p e s m args below meth c s₁ B hml hv
  obtain ⟨rfl, hsz, hP, hK, hD0⟩ := hv
  have hx := B.exec
  have hb := B.bytes
  have hr := B.returns
  have hts := atoms_spec (ws := wsX0_isRead) B.pre
  have hown : s.vm.findClass RX0 = some m.cls := findClass_of_methodNamed B.named
  have hlocks := B.notSynchronized
  subst hsz
  have hD := hD0.self (sz := s.heap.size)
  generalize hAe : va_A [] s.heap.size = A at hD ⊢
  have hA : ∀ q : Nat, s.heap.size ≤ q → A q := fun q h => by rw [← hAe]; exact Or.inr h
  have hS : va_S A s.heap s.heap [] := va_S.rf
  have hP : va_P (dC, dI) vwCl [] s.heap := hP
  have hl := lv_entry ([.int p0]) (n := 1) (Nat.le_of_ble_eq_true rfl)
  rw [lg_entry_eq]
  generalize (lg_sl ([.int p0]) ++ List.replicate (1 - (lg_sl ([.int p0])).length) Slot.unset).toArray = ls at hl ⊢
  have hl : lv_has ls 1 [(0, .int p0)] := hl
  refine lv_iload_n hx hb dX0_isRead_0 rfl (lv_at hl 0 rfl) ?_
  refine lv_if_eq (tgt := 9) hx hb dX0_isRead_1 (by decide) (fun c_1 => ?_) (fun c_1 => ?_)
  · refine lv_iconst (v := 1) hx hb dX0_isRead_9 (by decide) ?_
    refine lv_goto (tgt := 14) hx hb dX0_isRead_10 (by decide) ?_
    have hP9 := hP.sub (ws' := []) [] rfl
    have hD9 := hD.sub (ws' := []) [] (by decide) rfl
    have hK9 := hK.sub (tys' := []) [] rfl
    have ef : fx_X0_isRead p0 = 1 := by unfold fx_X0_isRead; rw [if_pos c_1]
    exact W.zret (v := 1) (ty := .boolean) hx hb hr rfl (fun t ht hW => ⟨⟨1, [], rfl, ⟨ef.symm, rfl⟩, by rw [ht]; exact hP9, va_K.moved hW.alike hK9, hD9⟩, hS.F ht⟩) hS.2.2 dX0_isRead_14
  refine lv_iload_n hx hb dX0_isRead_4 rfl (lv_at hl 0 rfl) ?_
  refine lv_iconst (v := 1) hx hb dX0_isRead_5 (by decide) ?_
  refine lv_icmp_ne (tgt := 13) hx hb dX0_isRead_6 (by decide) (fun c_2 => ?_) (fun c_2 => ?_)
  · refine lv_iconst (v := 0) hx hb dX0_isRead_13 (by decide) ?_
    have hP9 := hP.sub (ws' := []) [] rfl
    have hD9 := hD.sub (ws' := []) [] (by decide) rfl
    have hK9 := hK.sub (tys' := []) [] rfl
    have ef : fx_X0_isRead p0 = 0 := by unfold fx_X0_isRead; rw [if_neg c_1, if_neg c_2]
    exact W.zret (v := 0) (ty := .boolean) hx hb hr rfl (fun t ht hW => ⟨⟨0, [], rfl, ⟨ef.symm, rfl⟩, by rw [ht]; exact hP9, va_K.moved hW.alike hK9, hD9⟩, hS.F ht⟩) hS.2.2 dX0_isRead_14
  refine lv_iconst (v := 1) hx hb dX0_isRead_9 (by decide) ?_
  refine lv_goto (tgt := 14) hx hb dX0_isRead_10 (by decide) ?_
  have hP9 := hP.sub (ws' := []) [] rfl
  have hD9 := hD.sub (ws' := []) [] (by decide) rfl
  have hK9 := hK.sub (tys' := []) [] rfl
  have ef : fx_X0_isRead p0 = 1 := by unfold fx_X0_isRead; rw [if_neg c_1, if_pos c_2]
  exact W.zret (v := 1) (ty := .boolean) hx hb hr rfl (fun t ht hW => ⟨⟨1, [], rfl, ⟨ef.symm, rfl⟩, by rw [ht]; exact hP9, va_K.moved hW.alike hK9, hD9⟩, hS.F ht⟩) hS.2.2 dX0_isRead_14
set_option maxHeartbeats 4000000 in
set_option maxRecDepth 100000 in
theorem ct_X0_isWriteOrRewrite (l : Launch) (dC : Nat → ClassId) (dI : Nat → Nat → Nat) (sz : Nat) (p0 : Int32) : Met l yX0_isWriteOrRewrite wsX0_isWriteOrRewrite ({ frames := 0, cells := 0, slots := 0, locals := 0 }) (va_Pc [.int p0] (fun U => U.heap.size = sz ∧ va_P (dC, dI) vwCl [] U.heap ∧ va_K (dC, dI) vwCl [] U ∧ va_D (fun _ => True) [])) (va_Qi (fun (r : Int32) (u : va_W) => r = fx_X0_isWriteOrRewrite p0 ∧ u = []) (at_W dC dI (va_A [] sz)) (va_A [] sz)) 0 0 (va_A [] sz) := by
  refine Met.ofW (cc := cX0_isWriteOrRewrite) (maxL := 1) (ret := (some .boolean)) (by decide) rfl ?_
  intro p e s m args below meth c s₁ B hml hv
  obtain ⟨rfl, hsz, hP, hK, hD0⟩ := hv
  have hx := B.exec
  have hb := B.bytes
  have hr := B.returns
  have hts := atoms_spec (ws := wsX0_isWriteOrRewrite) B.pre
  have hown : s.vm.findClass RX0 = some m.cls := findClass_of_methodNamed B.named
  have hlocks := B.notSynchronized
  subst hsz
  have hD := hD0.self (sz := s.heap.size)
  generalize hAe : va_A [] s.heap.size = A at hD ⊢
  have hA : ∀ q : Nat, s.heap.size ≤ q → A q := fun q h => by rw [← hAe]; exact Or.inr h
  have hS : va_S A s.heap s.heap [] := va_S.rf
  have hP : va_P (dC, dI) vwCl [] s.heap := hP
  have hl := lv_entry ([.int p0]) (n := 1) (Nat.le_of_ble_eq_true rfl)
  rw [lg_entry_eq]
  generalize (lg_sl ([.int p0]) ++ List.replicate (1 - (lg_sl ([.int p0])).length) Slot.unset).toArray = ls at hl ⊢
  have hl : lv_has ls 1 [(0, .int p0)] := hl
  refine lv_iload_n hx hb dX0_isWriteOrRewrite_0 rfl (lv_at hl 0 rfl) ?_
  refine lv_iconst (v := 2) hx hb dX0_isWriteOrRewrite_1 (by decide) ?_
  refine lv_icmp_eq (tgt := 10) hx hb dX0_isWriteOrRewrite_2 (by decide) (fun c_1 => ?_) (fun c_1 => ?_)
  · refine lv_iconst (v := 1) hx hb dX0_isWriteOrRewrite_10 (by decide) ?_
    refine lv_goto (tgt := 15) hx hb dX0_isWriteOrRewrite_11 (by decide) ?_
    have hP9 := hP.sub (ws' := []) [] rfl
    have hD9 := hD.sub (ws' := []) [] (by decide) rfl
    have hK9 := hK.sub (tys' := []) [] rfl
    have ef : fx_X0_isWriteOrRewrite p0 = 1 := by unfold fx_X0_isWriteOrRewrite; rw [if_pos c_1]
    exact W.zret (v := 1) (ty := .boolean) hx hb hr rfl (fun t ht hW => ⟨⟨1, [], rfl, ⟨ef.symm, rfl⟩, by rw [ht]; exact hP9, va_K.moved hW.alike hK9, hD9⟩, hS.F ht⟩) hS.2.2 dX0_isWriteOrRewrite_15
  refine lv_iload_n hx hb dX0_isWriteOrRewrite_5 rfl (lv_at hl 0 rfl) ?_
  refine lv_iconst (v := 3) hx hb dX0_isWriteOrRewrite_6 (by decide) ?_
  refine lv_icmp_ne (tgt := 14) hx hb dX0_isWriteOrRewrite_7 (by decide) (fun c_2 => ?_) (fun c_2 => ?_)
  · refine lv_iconst (v := 0) hx hb dX0_isWriteOrRewrite_14 (by decide) ?_
    have hP9 := hP.sub (ws' := []) [] rfl
    have hD9 := hD.sub (ws' := []) [] (by decide) rfl
    have hK9 := hK.sub (tys' := []) [] rfl
    have ef : fx_X0_isWriteOrRewrite p0 = 0 := by unfold fx_X0_isWriteOrRewrite; rw [if_neg c_1, if_neg c_2]
    exact W.zret (v := 0) (ty := .boolean) hx hb hr rfl (fun t ht hW => ⟨⟨0, [], rfl, ⟨ef.symm, rfl⟩, by rw [ht]; exact hP9, va_K.moved hW.alike hK9, hD9⟩, hS.F ht⟩) hS.2.2 dX0_isWriteOrRewrite_15
  refine lv_iconst (v := 1) hx hb dX0_isWriteOrRewrite_10 (by decide) ?_
  refine lv_goto (tgt := 15) hx hb dX0_isWriteOrRewrite_11 (by decide) ?_
  have hP9 := hP.sub (ws' := []) [] rfl
  have hD9 := hD.sub (ws' := []) [] (by decide) rfl
  have hK9 := hK.sub (tys' := []) [] rfl
  have ef : fx_X0_isWriteOrRewrite p0 = 1 := by unfold fx_X0_isWriteOrRewrite; rw [if_neg c_1, if_pos c_2]
  exact W.zret (v := 1) (ty := .boolean) hx hb hr rfl (fun t ht hW => ⟨⟨1, [], rfl, ⟨ef.symm, rfl⟩, by rw [ht]; exact hP9, va_K.moved hW.alike hK9, hD9⟩, hS.F ht⟩) hS.2.2 dX0_isWriteOrRewrite_15
set_option maxHeartbeats 4000000 in
set_option maxRecDepth 100000 in
theorem ct_X0_isStatus (l : Launch) (dC : Nat → ClassId) (dI : Nat → Nat → Nat) (sz : Nat) (p0 : Int32) : Met l yX0_isStatus wsX0_isStatus ({ frames := 0, cells := 0, slots := 0, locals := 0 }) (va_Pc [.int p0] (fun U => U.heap.size = sz ∧ va_P (dC, dI) vwCl [] U.heap ∧ va_K (dC, dI) vwCl [] U ∧ va_D (fun _ => True) [])) (va_Qi (fun (r : Int32) (u : va_W) => r = fx_X0_isStatus p0 ∧ u = []) (at_W dC dI (va_A [] sz)) (va_A [] sz)) 0 0 (va_A [] sz) := by
  refine Met.ofW (cc := cX0_isStatus) (maxL := 1) (ret := (some .boolean)) (by decide) rfl ?_
  intro p e s m args below meth c s₁ B hml hv
  obtain ⟨rfl, hsz, hP, hK, hD0⟩ := hv
  have hx := B.exec
  have hb := B.bytes
  have hr := B.returns
  have hts := atoms_spec (ws := wsX0_isStatus) B.pre
  have hown : s.vm.findClass RX0 = some m.cls := findClass_of_methodNamed B.named
  have hlocks := B.notSynchronized
  subst hsz
  have hD := hD0.self (sz := s.heap.size)
  generalize hAe : va_A [] s.heap.size = A at hD ⊢
  have hA : ∀ q : Nat, s.heap.size ≤ q → A q := fun q h => by rw [← hAe]; exact Or.inr h
  have hS : va_S A s.heap s.heap [] := va_S.rf
  have hP : va_P (dC, dI) vwCl [] s.heap := hP
  have hl := lv_entry ([.int p0]) (n := 1) (Nat.le_of_ble_eq_true rfl)
  rw [lg_entry_eq]
  generalize (lg_sl ([.int p0]) ++ List.replicate (1 - (lg_sl ([.int p0])).length) Slot.unset).toArray = ls at hl ⊢
  have hl : lv_has ls 1 [(0, .int p0)] := hl
  refine lv_iload_n hx hb dX0_isStatus_0 rfl (lv_at hl 0 rfl) ?_
  refine lv_if_lt (tgt := 14) hx hb dX0_isStatus_1 (by decide) (fun c_1 => ?_) (fun c_1 => ?_)
  · refine lv_iconst (v := 0) hx hb dX0_isStatus_14 (by decide) ?_
    have hP9 := hP.sub (ws' := []) [] rfl
    have hD9 := hD.sub (ws' := []) [] (by decide) rfl
    have hK9 := hK.sub (tys' := []) [] rfl
    have ef : fx_X0_isStatus p0 = 0 := by unfold fx_X0_isStatus; rw [if_pos c_1]
    exact W.zret (v := 0) (ty := .boolean) hx hb hr rfl (fun t ht hW => ⟨⟨0, [], rfl, ⟨ef.symm, rfl⟩, by rw [ht]; exact hP9, va_K.moved hW.alike hK9, hD9⟩, hS.F ht⟩) hS.2.2 dX0_isStatus_15
  refine lv_iload_n hx hb dX0_isStatus_4 rfl (lv_at hl 0 rfl) ?_
  refine lv_bipush (v := 99) hx hb dX0_isStatus_5 (by decide) ?_
  refine lv_icmp_gt (tgt := 14) hx hb dX0_isStatus_7 (by decide) (fun c_2 => ?_) (fun c_2 => ?_)
  · refine lv_iconst (v := 0) hx hb dX0_isStatus_14 (by decide) ?_
    have hP9 := hP.sub (ws' := []) [] rfl
    have hD9 := hD.sub (ws' := []) [] (by decide) rfl
    have hK9 := hK.sub (tys' := []) [] rfl
    have ef : fx_X0_isStatus p0 = 0 := by unfold fx_X0_isStatus; rw [if_neg c_1, if_pos c_2]
    exact W.zret (v := 0) (ty := .boolean) hx hb hr rfl (fun t ht hW => ⟨⟨0, [], rfl, ⟨ef.symm, rfl⟩, by rw [ht]; exact hP9, va_K.moved hW.alike hK9, hD9⟩, hS.F ht⟩) hS.2.2 dX0_isStatus_15
  refine lv_iconst (v := 1) hx hb dX0_isStatus_10 (by decide) ?_
  refine lv_goto (tgt := 15) hx hb dX0_isStatus_11 (by decide) ?_
  have hP9 := hP.sub (ws' := []) [] rfl
  have hD9 := hD.sub (ws' := []) [] (by decide) rfl
  have hK9 := hK.sub (tys' := []) [] rfl
  have ef : fx_X0_isStatus p0 = 1 := by unfold fx_X0_isStatus; rw [if_neg c_1, if_neg c_2]
  exact W.zret (v := 1) (ty := .boolean) hx hb hr rfl (fun t ht hW => ⟨⟨1, [], rfl, ⟨ef.symm, rfl⟩, by rw [ht]; exact hP9, va_K.moved hW.alike hK9, hD9⟩, hS.F ht⟩) hS.2.2 dX0_isStatus_15
end
section
set_option maxHeartbeats 4000000 in
set_option maxRecDepth 100000 in
theorem ct_X0_exception (l : Launch) (dC : Nat → ClassId) (dI : Nat → Nat → Nat) (h0 : Nat) (sz : Nat) (a0 a1 a2 a3 a4 a5 a6 a7 a8 a9 a10 a11 p0 : Int32) : Met l yX0_exception wsX0_exception ({ frames := 1, cells := 0, slots := 0, locals := 20 }) (va_Pc [.ref h0, .int p0] (fun U => U.heap.size = sz ∧ va_P (dC, dI) vwCl [(h0, .inr (0, [.int a0, .int a1, .int a2, .int a3, .int a4, .int a5, .int a6, .int a7, .int a8, .int a9, .int a10, .int a11]))] U.heap ∧ va_K (dC, dI) vwCl [] U ∧ va_D (fun _ => True) [(h0, .inr (0, [.int a0, .int a1, .int a2, .int a3, .int a4, .int a5, .int a6, .int a7, .int a8, .int a9, .int a10, .int a11]))])) (va_Qi (fun (r : Int32) (u : va_W) => r = fx_X0_exception p0 ∧ u = [(h0, .inr (0, [.int a0, .int a1, .int a2, .int a3, .int a4, .int a5, .int a6, .int a7, .int a8, .int a9, .int a10, .int a11]))]) (at_W dC dI (va_A [(h0, .inr (0, [.int a0, .int a1, .int a2, .int a3, .int a4, .int a5, .int a6, .int a7, .int a8, .int a9, .int a10, .int a11]))] sz)) (va_A [(h0, .inr (0, [.int a0, .int a1, .int a2, .int a3, .int a4, .int a5, .int a6, .int a7, .int a8, .int a9, .int a10, .int a11]))] sz)) 0 0 (va_A [(h0, .inr (0, [.int a0, .int a1, .int a2, .int a3, .int a4, .int a5, .int a6, .int a7, .int a8, .int a9, .int a10, .int a11]))] sz) := by
  refine Met.ofW (cc := cX0_exception) (maxL := 3) (ret := (some .int)) (by decide) rfl ?_
  intro p e s m args below meth c s₁ B hml hv
  obtain ⟨rfl, hsz, hP, hK, hD0⟩ := hv
  have hx := B.exec
  have hb := B.bytes
  have hr := B.returns
  have hts := atoms_spec (ws := wsX0_exception) B.pre
  have hown : s.vm.findClass RX0 = some m.cls := findClass_of_methodNamed B.named
  have hlocks := B.notSynchronized
  subst hsz
  have hD := hD0.self (sz := s.heap.size)
  generalize hAe : va_A [(h0, .inr (0, [.int a0, .int a1, .int a2, .int a3, .int a4, .int a5, .int a6, .int a7, .int a8, .int a9, .int a10, .int a11]))] s.heap.size = A at hD ⊢
  have hA : ∀ q : Nat, s.heap.size ≤ q → A q := fun q h => by rw [← hAe]; exact Or.inr h
  have hS : va_S A s.heap s.heap [] := va_S.rf
  have hP : va_P (dC, dI) vwCl [(h0, .inr (0, [.int a0, .int a1, .int a2, .int a3, .int a4, .int a5, .int a6, .int a7, .int a8, .int a9, .int a10, .int a11]))] s.heap := hP
  have hl := lv_entry ([.ref h0, .int p0]) (n := 3) (Nat.le_of_ble_eq_true rfl)
  rw [lg_entry_eq]
  generalize (lg_sl ([.ref h0, .int p0]) ++ List.replicate (3 - (lg_sl ([.ref h0, .int p0])).length) Slot.unset).toArray = ls at hl ⊢
  have hl : lv_has ls 3 [(0, .ref h0), (1, .int p0)] := hl
  refine lv_iload_n hx hb dX0_exception_0 rfl (lv_at hl 1 rfl) ?_
  have hPc := hP.sub (ws' := []) [] rfl
  have hDc := hD.sub (ws' := []) [] (by decide) rfl
  have hKc := hK.sub (tys' := []) [] rfl
  have hFc := va_free (wc := []) hD hS hA [] rfl
  refine va_calli (va_runS (As := [.int p0]) (rest := []) ⟨hx, hb, hml, hown, hts⟩ (ct_X0_isStatus l dC dI s.heap.size p0) (va_cwS 1 hts gX0_exception_X0_isStatus rfl rfl rfl (by decide +kernel) ⟨Nat.le_of_ble_eq_true rfl, Nat.le_of_ble_eq_true rfl⟩) ⟨fun a U g mk q => by obtain ⟨q0, q1, qP, qK, qD⟩ := q; exact ⟨q0, q1, qP, va_K.moved (u := U) (U := U.calling g mk a) (Vm.Alike.refl U.vm) qK, qD⟩, fun U hU hW => ⟨rfl, by rw [hU], by rw [hU]; exact hPc, va_K.moved hW.alike hKc, hDc.weaken (fun _ _ _ _ => trivial)⟩⟩ rfl rfl hl.1 rfl (lv_room (Nat.le_of_ble_eq_true rfl)) dX0_exception_1 ⟨(Nat.zero_le _), (Nat.zero_le _)⟩) hS (fun q _ h => hFc q h) hFc (fun r_1 u t H1 locs ht hvm hw hB hz1 hk1 hS => ?_)
  obtain ⟨er, hu⟩ := hw
  subst hu
  subst er
  obtain ⟨hP1, hK1, hD1⟩ := hB
  rw [ht] at hP1
  have hK1 := va_K.moved hvm.symm hK1
  obtain ⟨hP, hD⟩ := va_join (wr := [(h0, .inr (0, [.int a0, .int a1, .int a2, .int a3, .int a4, .int a5, .int a6, .int a7, .int a8, .int a9, .int a10, .int a11]))]) (w1 := []) hP hD [] [0] rfl rfl (by decide) (by decide) hk1 hFc hP1 hD1
  have hK := (hK.sub (tys' := []) [] rfl).app hK1
  generalize H1 = H at hP hS ⊢
  have hP : va_P (dC, dI) vwCl [(h0, .inr (0, [.int a0, .int a1, .int a2, .int a3, .int a4, .int a5, .int a6, .int a7, .int a8, .int a9, .int a10, .int a11]))] H := hP
  have hD : va_D A [(h0, .inr (0, [.int a0, .int a1, .int a2, .int a3, .int a4, .int a5, .int a6, .int a7, .int a8, .int a9, .int a10, .int a11]))] := hD
  have hK : va_K (dC, dI) vwCl [] s := hK
  refine lv_if_ne (tgt := 9) hx hb dX0_exception_4 (by decide) (fun c_2 => ?_) (fun c_2 => ?_)
  · refine lv_iload_n hx hb dX0_exception_9 rfl (lv_at hl 1 rfl) ?_
    refine lv_bipush (v := 10) hx hb dX0_exception_10 (by decide) ?_
    refine lv_idiv hx hb dX0_exception_12 (by decide) ?_
    refine lv_istore_n (lv' := [(2, .int (p0 / 10)), (0, .ref h0), (1, .int p0)]) hx hb dX0_exception_13 rfl hl (by decide) rfl (fun ls hl => ?_)
    refine lv_iload_n hx hb dX0_exception_14 rfl (lv_at hl 0 rfl) ?_
    refine lv_iconst (v := 5) hx hb dX0_exception_15 (by decide) ?_
    refine lv_icmp_gt (tgt := 21) hx hb dX0_exception_16 (by decide) (fun c_3 => ?_) (fun c_3 => ?_)
    · refine lv_iload_n hx hb dX0_exception_21 rfl (lv_at hl 0 rfl) ?_
      refine lv_bipush (v := 6) hx hb dX0_exception_22 (by decide) ?_
      refine lv_icmp_ne (tgt := 31) hx hb dX0_exception_24 (by decide) (fun c_4 => ?_) (fun c_4 => ?_)
      · refine lv_bipush (v := 6) hx hb dX0_exception_31 (by decide) ?_
        have hP9 := hP.sub (ws' := [(h0, .inr (0, [.int a0, .int a1, .int a2, .int a3, .int a4, .int a5, .int a6, .int a7, .int a8, .int a9, .int a10, .int a11]))]) [0] rfl
        have hD9 := hD.sub (ws' := [(h0, .inr (0, [.int a0, .int a1, .int a2, .int a3, .int a4, .int a5, .int a6, .int a7, .int a8, .int a9, .int a10, .int a11]))]) [0] (by decide) rfl
        have hK9 := hK.sub (tys' := []) [] rfl
        have ef : fx_X0_exception p0 = 6 := by unfold fx_X0_exception; rw [if_neg c_2, if_pos c_3, if_neg c_4]
        exact W.iret (v := 6) hx hb hr (fun t ht hW => ⟨⟨6, [(h0, .inr (0, [.int a0, .int a1, .int a2, .int a3, .int a4, .int a5, .int a6, .int a7, .int a8, .int a9, .int a10, .int a11]))], rfl, ⟨ef.symm, rfl⟩, by rw [ht]; exact hP9, va_K.moved hW.alike hK9, hD9⟩, hS.F ht⟩) hS.2.2 dX0_exception_33
      refine lv_iconst (v := 5) hx hb dX0_exception_27 (by decide) ?_
      refine lv_goto (tgt := 33) hx hb dX0_exception_28 (by decide) ?_
      have hP9 := hP.sub (ws' := [(h0, .inr (0, [.int a0, .int a1, .int a2, .int a3, .int a4, .int a5, .int a6, .int a7, .int a8, .int a9, .int a10, .int a11]))]) [0] rfl
      have hD9 := hD.sub (ws' := [(h0, .inr (0, [.int a0, .int a1, .int a2, .int a3, .int a4, .int a5, .int a6, .int a7, .int a8, .int a9, .int a10, .int a11]))]) [0] (by decide) rfl
      have hK9 := hK.sub (tys' := []) [] rfl
      have ef : fx_X0_exception p0 = 5 := by unfold fx_X0_exception; rw [if_neg c_2, if_pos c_3, if_pos c_4]
      exact W.iret (v := 5) hx hb hr (fun t ht hW => ⟨⟨5, [(h0, .inr (0, [.int a0, .int a1, .int a2, .int a3, .int a4, .int a5, .int a6, .int a7, .int a8, .int a9, .int a10, .int a11]))], rfl, ⟨ef.symm, rfl⟩, by rw [ht]; exact hP9, va_K.moved hW.alike hK9, hD9⟩, hS.F ht⟩) hS.2.2 dX0_exception_33
    refine lv_iload_n hx hb dX0_exception_19 rfl (lv_at hl 0 rfl) ?_
    have hP9 := hP.sub (ws' := [(h0, .inr (0, [.int a0, .int a1, .int a2, .int a3, .int a4, .int a5, .int a6, .int a7, .int a8, .int a9, .int a10, .int a11]))]) [0] rfl
    have hD9 := hD.sub (ws' := [(h0, .inr (0, [.int a0, .int a1, .int a2, .int a3, .int a4, .int a5, .int a6, .int a7, .int a8, .int a9, .int a10, .int a11]))]) [0] (by decide) rfl
    have hK9 := hK.sub (tys' := []) [] rfl
    have ef : fx_X0_exception p0 = p0 / 10 := by unfold fx_X0_exception; rw [if_neg c_2, if_neg c_3]
    exact W.iret (v := p0 / 10) hx hb hr (fun t ht hW => ⟨⟨(p0 / 10), [(h0, .inr (0, [.int a0, .int a1, .int a2, .int a3, .int a4, .int a5, .int a6, .int a7, .int a8, .int a9, .int a10, .int a11]))], rfl, ⟨ef.symm, rfl⟩, by rw [ht]; exact hP9, va_K.moved hW.alike hK9, hD9⟩, hS.F ht⟩) hS.2.2 dX0_exception_20
  refine lv_iconst (v := (-1)) hx hb dX0_exception_7 (by decide) ?_
  have hP9 := hP.sub (ws' := [(h0, .inr (0, [.int a0, .int a1, .int a2, .int a3, .int a4, .int a5, .int a6, .int a7, .int a8, .int a9, .int a10, .int a11]))]) [0] rfl
  have hD9 := hD.sub (ws' := [(h0, .inr (0, [.int a0, .int a1, .int a2, .int a3, .int a4, .int a5, .int a6, .int a7, .int a8, .int a9, .int a10, .int a11]))]) [0] (by decide) rfl
  have hK9 := hK.sub (tys' := []) [] rfl
  have ef : fx_X0_exception p0 = (-1) := by unfold fx_X0_exception; rw [if_pos c_2]
  exact W.iret (v := (-1)) hx hb hr (fun t ht hW => ⟨⟨(-1), [(h0, .inr (0, [.int a0, .int a1, .int a2, .int a3, .int a4, .int a5, .int a6, .int a7, .int a8, .int a9, .int a10, .int a11]))], rfl, ⟨ef.symm, rfl⟩, by rw [ht]; exact hP9, va_K.moved hW.alike hK9, hD9⟩, hS.F ht⟩) hS.2.2 dX0_exception_8
set_option maxHeartbeats 4000000 in
set_option maxRecDepth 100000 in
theorem ct_X0_phrase (l : Launch) (dC : Nat → ClassId) (dI : Nat → Nat → Nat) (h0 : Nat) (sz : Nat) (a0 a1 a2 a3 a4 a5 a6 a7 a8 a9 a10 a11 p0 : Int32) : Met l yX0_phrase wsX0_phrase ({ frames := 2, cells := 0, slots := 0, locals := 42 }) (va_Pc [.ref h0, .int p0] (fun U => U.heap.size = sz ∧ va_P (dC, dI) vwCl [(h0, .inr (0, [.int a0, .int a1, .int a2, .int a3, .int a4, .int a5, .int a6, .int a7, .int a8, .int a9, .int a10, .int a11]))] U.heap ∧ va_K (dC, dI) vwCl [] U ∧ va_D (fun _ => True) [(h0, .inr (0, [.int a0, .int a1, .int a2, .int a3, .int a4, .int a5, .int a6, .int a7, .int a8, .int a9, .int a10, .int a11]))])) (va_Qi (fun (r : Int32) (u : va_W) => r = fx_X0_phrase a7 a9 p0 ∧ u = [(h0, .inr (0, [.int a0, .int a1, .int a2, .int a3, .int a4, .int a5, .int a6, .int a7, .int a8, .int a9, .int a10, .int a11]))]) (at_W dC dI (va_A [(h0, .inr (0, [.int a0, .int a1, .int a2, .int a3, .int a4, .int a5, .int a6, .int a7, .int a8, .int a9, .int a10, .int a11]))] sz)) (va_A [(h0, .inr (0, [.int a0, .int a1, .int a2, .int a3, .int a4, .int a5, .int a6, .int a7, .int a8, .int a9, .int a10, .int a11]))] sz)) 0 0 (va_A [(h0, .inr (0, [.int a0, .int a1, .int a2, .int a3, .int a4, .int a5, .int a6, .int a7, .int a8, .int a9, .int a10, .int a11]))] sz) := by
  refine Met.ofW (cc := cX0_phrase) (maxL := 4) (ret := (some .int)) (by decide) rfl ?_
  intro p e s m args below meth c s₁ B hml hv
  obtain ⟨rfl, hsz, hP, hK, hD0⟩ := hv
  have hx := B.exec
  have hb := B.bytes
  have hr := B.returns
  have hts := atoms_spec (ws := wsX0_phrase) B.pre
  have hown : s.vm.findClass RX0 = some m.cls := findClass_of_methodNamed B.named
  have hlocks := B.notSynchronized
  subst hsz
  have hD := hD0.self (sz := s.heap.size)
  generalize hAe : va_A [(h0, .inr (0, [.int a0, .int a1, .int a2, .int a3, .int a4, .int a5, .int a6, .int a7, .int a8, .int a9, .int a10, .int a11]))] s.heap.size = A at hD ⊢
  have hA : ∀ q : Nat, s.heap.size ≤ q → A q := fun q h => by rw [← hAe]; exact Or.inr h
  have hS : va_S A s.heap s.heap [] := va_S.rf
  have hP : va_P (dC, dI) vwCl [(h0, .inr (0, [.int a0, .int a1, .int a2, .int a3, .int a4, .int a5, .int a6, .int a7, .int a8, .int a9, .int a10, .int a11]))] s.heap := hP
  have hl := lv_entry ([.ref h0, .int p0]) (n := 4) (Nat.le_of_ble_eq_true rfl)
  rw [lg_entry_eq]
  generalize (lg_sl ([.ref h0, .int p0]) ++ List.replicate (4 - (lg_sl ([.ref h0, .int p0])).length) Slot.unset).toArray = ls at hl ⊢
  have hl : lv_has ls 4 [(0, .ref h0), (1, .int p0)] := hl
  refine lv_aload_n hx hb dX0_phrase_0 rfl (lv_at hl 0 rfl) ?_
  refine lv_aload_n hx hb dX0_phrase_1 rfl (lv_at hl 0 rfl) ?_
  refine va_get (D := (dC, dI)) (ci := 0) (v := .int a7) (C := RX0) (T := TX0) (N := 12) hx hb hts (fun _ h => List.mem_cons_of_mem _ (List.mem_append_right _ h)) hown hK hP 0 rfl rfl 7 (by decide) (hts (.fieldLink RX0 29 "FileStatus" "latestStatus" "I") (by decide +kernel)) (fun _ h9 => h9) rfl dX0_phrase_2 ?_
  have hPc := hP.sub (ws' := [(h0, .inr (0, [.int a0, .int a1, .int a2, .int a3, .int a4, .int a5, .int a6, .int a7, .int a8, .int a9, .int a10, .int a11]))]) [0] rfl
  have hDc := hD.sub (ws' := [(h0, .inr (0, [.int a0, .int a1, .int a2, .int a3, .int a4, .int a5, .int a6, .int a7, .int a8, .int a9, .int a10, .int a11]))]) [0] (by decide) rfl
  have hKc := hK.sub (tys' := []) [] rfl
  have hFc := va_free (wc := [(h0, .inr (0, [.int a0, .int a1, .int a2, .int a3, .int a4, .int a5, .int a6, .int a7, .int a8, .int a9, .int a10, .int a11]))]) hD hS hA [0] rfl
  refine va_calli (va_runV (As := [.int a7]) (rest := []) ⟨hx, hb, hml, hown, hts⟩ (ct_X0_exception l dC dI h0 s.heap.size a0 a1 a2 a3 a4 a5 a6 a7 a8 a9 a10 a11 a7) (cwV 1 hts gX0_phrase_X0_exception rfl rfl rfl (by decide +kernel) ⟨Nat.le_of_ble_eq_true rfl, Nat.le_of_ble_eq_true rfl⟩) ⟨fun a U g mk q => by obtain ⟨q0, q1, qP, qK, qD⟩ := q; exact ⟨q0, q1, qP, va_K.moved (u := U) (U := U.calling g mk a) (Vm.Alike.refl U.vm) qK, qD⟩, va_recv hKc hPc (ci := 0) (q0 := 0) rfl rfl, fun U hU hW => ⟨rfl, by rw [hU], by rw [hU]; exact hPc, va_K.moved hW.alike hKc, hDc.weaken (fun _ _ _ _ => trivial)⟩⟩ rfl rfl hl.1 rfl (lv_room (Nat.le_of_ble_eq_true rfl)) dX0_phrase_5 ⟨(Nat.zero_le _), (Nat.zero_le _)⟩) hS (fun q _ h => hFc q h) hFc (fun r_1 u t H1 locs ht hvm hw hB hz1 hk1 hS => ?_)
  obtain ⟨er, hu⟩ := hw
  subst hu
  subst er
  obtain ⟨hP1, hK1, hD1⟩ := hB
  rw [ht] at hP1
  have hK1 := va_K.moved hvm.symm hK1
  obtain ⟨hP, hD⟩ := va_join (wr := []) (w1 := [(h0, .inr (0, [.int a0, .int a1, .int a2, .int a3, .int a4, .int a5, .int a6, .int a7, .int a8, .int a9, .int a10, .int a11]))]) hP hD [0] [] rfl rfl (by decide) (by decide) hk1 hFc hP1 hD1
  have hK := (hK.sub (tys' := []) [] rfl).app hK1
  generalize H1 = H at hP hS ⊢
  have hP : va_P (dC, dI) vwCl [(h0, .inr (0, [.int a0, .int a1, .int a2, .int a3, .int a4, .int a5, .int a6, .int a7, .int a8, .int a9, .int a10, .int a11]))] H := hP
  have hD : va_D A [(h0, .inr (0, [.int a0, .int a1, .int a2, .int a3, .int a4, .int a5, .int a6, .int a7, .int a8, .int a9, .int a10, .int a11]))] := hD
  have hK : va_K (dC, dI) vwCl [] s := hK
  refine lv_istore_n (lv' := [(2, .int (fx_X0_exception a7)), (0, .ref h0), (1, .int p0)]) hx hb dX0_phrase_8 rfl hl (by decide) rfl (fun ls hl => ?_)
  refine lv_iload_n hx hb dX0_phrase_9 rfl (lv_at hl 0 rfl) ?_
  refine lv_if_ne (tgt := 15) hx hb dX0_phrase_10 (by decide) (fun c_2 => ?_) (fun c_2 => ?_)
  · refine lv_iload_n hx hb dX0_phrase_15 rfl (lv_at hl 0 rfl) ?_
    refine lv_iconst (v := 1) hx hb dX0_phrase_16 (by decide) ?_
    refine lv_icmp_eq (tgt := 25) hx hb dX0_phrase_17 (by decide) (fun c_3 => ?_) (fun c_3 => ?_)
    · refine lv_iconst (v := 1) hx hb dX0_phrase_25 (by decide) ?_
      refine lv_goto (tgt := 30) hx hb dX0_phrase_26 (by decide) ?_
      refine lv_istore_n (lv' := [(3, .int 1), (2, .int (fx_X0_exception a7)), (0, .ref h0), (1, .int p0)]) hx hb dX0_phrase_30 rfl hl (by decide) rfl (fun ls hl => ?_)
      refine lv_iload_n hx hb dX0_phrase_31 rfl (lv_at hl 0 rfl) ?_
      refine lv_if_eq (tgt := 41) hx hb dX0_phrase_32 (by decide) (fun c9 => absurd c9 (by decide)) (fun c9 => ?_)
      refine lv_iload_n hx hb dX0_phrase_35 rfl (lv_at hl 3 rfl) ?_
      refine lv_if_eq (tgt := 41) hx hb dX0_phrase_36 (by decide) (fun c_4 => ?_) (fun c_4 => ?_)
      · refine lv_aload_n hx hb dX0_phrase_41 rfl (lv_at hl 2 rfl) ?_
        refine lv_iload_n hx hb dX0_phrase_42 rfl (lv_at hl 1 rfl) ?_
        have hPc := hP.sub (ws' := [(h0, .inr (0, [.int a0, .int a1, .int a2, .int a3, .int a4, .int a5, .int a6, .int a7, .int a8, .int a9, .int a10, .int a11]))]) [0] rfl
        have hDc := hD.sub (ws' := [(h0, .inr (0, [.int a0, .int a1, .int a2, .int a3, .int a4, .int a5, .int a6, .int a7, .int a8, .int a9, .int a10, .int a11]))]) [0] (by decide) rfl
        have hKc := hK.sub (tys' := []) [] rfl
        have hFc := va_free (wc := [(h0, .inr (0, [.int a0, .int a1, .int a2, .int a3, .int a4, .int a5, .int a6, .int a7, .int a8, .int a9, .int a10, .int a11]))]) hD hS hA [0] rfl
        refine va_calli (va_runV (As := [.int (fx_X0_exception a7)]) (rest := []) ⟨hx, hb, hml, hown, hts⟩ (ct_X0_hasDeclarative l dC dI h0 H.size a0 a1 a2 a3 a4 a5 a6 a7 a8 a9 a10 a11 (fx_X0_exception a7)) (cwV 1 hts gX0_phrase_X0_hasDeclarative rfl rfl rfl (by decide +kernel) ⟨Nat.le_of_ble_eq_true rfl, Nat.le_of_ble_eq_true rfl⟩) ⟨fun a U g mk q => by obtain ⟨q0, q1, qP, qK, qD⟩ := q; exact ⟨q0, q1, qP, va_K.moved (u := U) (U := U.calling g mk a) (Vm.Alike.refl U.vm) qK, qD⟩, va_recv hKc hPc (ci := 0) (q0 := 0) rfl rfl, fun U hU hW => ⟨rfl, by rw [hU], by rw [hU]; exact hPc, va_K.moved hW.alike hKc, hDc.weaken (fun _ _ _ _ => trivial)⟩⟩ rfl rfl hl.1 rfl (lv_room (Nat.le_of_ble_eq_true rfl)) dX0_phrase_43 ⟨(Nat.zero_le _), (Nat.zero_le _)⟩) hS (fun q _ h => hFc q h) hFc (fun r_5 u t H1 locs ht hvm hw hB hz1 hk1 hS => ?_)
        obtain ⟨er, hu⟩ := hw
        subst hu
        subst er
        obtain ⟨hP1, hK1, hD1⟩ := hB
        rw [ht] at hP1
        have hK1 := va_K.moved hvm.symm hK1
        obtain ⟨hP, hD⟩ := va_join (wr := []) (w1 := [(h0, .inr (0, [.int a0, .int a1, .int a2, .int a3, .int a4, .int a5, .int a6, .int a7, .int a8, .int a9, .int a10, .int a11]))]) hP hD [0] [] rfl rfl (by decide) (by decide) hk1 hFc hP1 hD1
        have hK := (hK.sub (tys' := []) [] rfl).app hK1
        generalize H1 = H at hP hS ⊢
        have hP : va_P (dC, dI) vwCl [(h0, .inr (0, [.int a0, .int a1, .int a2, .int a3, .int a4, .int a5, .int a6, .int a7, .int a8, .int a9, .int a10, .int a11]))] H := hP
        have hD : va_D A [(h0, .inr (0, [.int a0, .int a1, .int a2, .int a3, .int a4, .int a5, .int a6, .int a7, .int a8, .int a9, .int a10, .int a11]))] := hD
        have hK : va_K (dC, dI) vwCl [] s := hK
        refine lv_if_eq (tgt := 51) hx hb dX0_phrase_46 (by decide) (fun c_6 => ?_) (fun c_6 => ?_)
        · refine lv_iload_n hx hb dX0_phrase_51 rfl (lv_at hl 0 rfl) ?_
          refine lv_if_eq (tgt := 59) hx hb dX0_phrase_52 (by decide) (fun c9 => absurd c9 (by decide)) (fun c9 => ?_)
          refine lv_iconst (v := 4) hx hb dX0_phrase_55 (by decide) ?_
          refine lv_goto (tgt := 60) hx hb dX0_phrase_56 (by decide) ?_
          have hP9 := hP.sub (ws' := [(h0, .inr (0, [.int a0, .int a1, .int a2, .int a3, .int a4, .int a5, .int a6, .int a7, .int a8, .int a9, .int a10, .int a11]))]) [0] rfl
          have hD9 := hD.sub (ws' := [(h0, .inr (0, [.int a0, .int a1, .int a2, .int a3, .int a4, .int a5, .int a6, .int a7, .int a8, .int a9, .int a10, .int a11]))]) [0] (by decide) rfl
          have hK9 := hK.sub (tys' := []) [] rfl
          have ef : fx_X0_phrase a7 a9 p0 = 4 := by unfold fx_X0_phrase; rw [if_neg c_2, if_pos c_3, if_pos c_4, if_pos c_6]
          exact W.iret (v := 4) hx hb hr (fun t ht hW => ⟨⟨4, [(h0, .inr (0, [.int a0, .int a1, .int a2, .int a3, .int a4, .int a5, .int a6, .int a7, .int a8, .int a9, .int a10, .int a11]))], rfl, ⟨ef.symm, rfl⟩, by rw [ht]; exact hP9, va_K.moved hW.alike hK9, hD9⟩, hS.F ht⟩) hS.2.2 dX0_phrase_60
        refine lv_iconst (v := 2) hx hb dX0_phrase_49 (by decide) ?_
        have hP9 := hP.sub (ws' := [(h0, .inr (0, [.int a0, .int a1, .int a2, .int a3, .int a4, .int a5, .int a6, .int a7, .int a8, .int a9, .int a10, .int a11]))]) [0] rfl
        have hD9 := hD.sub (ws' := [(h0, .inr (0, [.int a0, .int a1, .int a2, .int a3, .int a4, .int a5, .int a6, .int a7, .int a8, .int a9, .int a10, .int a11]))]) [0] (by decide) rfl
        have hK9 := hK.sub (tys' := []) [] rfl
        have ef : fx_X0_phrase a7 a9 p0 = 2 := by unfold fx_X0_phrase; rw [if_neg c_2, if_pos c_3, if_pos c_4, if_neg c_6]
        exact W.iret (v := 2) hx hb hr (fun t ht hW => ⟨⟨2, [(h0, .inr (0, [.int a0, .int a1, .int a2, .int a3, .int a4, .int a5, .int a6, .int a7, .int a8, .int a9, .int a10, .int a11]))], rfl, ⟨ef.symm, rfl⟩, by rw [ht]; exact hP9, va_K.moved hW.alike hK9, hD9⟩, hS.F ht⟩) hS.2.2 dX0_phrase_50
      refine lv_iconst (v := 1) hx hb dX0_phrase_39 (by decide) ?_
      have hP9 := hP.sub (ws' := [(h0, .inr (0, [.int a0, .int a1, .int a2, .int a3, .int a4, .int a5, .int a6, .int a7, .int a8, .int a9, .int a10, .int a11]))]) [0] rfl
      have hD9 := hD.sub (ws' := [(h0, .inr (0, [.int a0, .int a1, .int a2, .int a3, .int a4, .int a5, .int a6, .int a7, .int a8, .int a9, .int a10, .int a11]))]) [0] (by decide) rfl
      have hK9 := hK.sub (tys' := []) [] rfl
      have ef : fx_X0_phrase a7 a9 p0 = 1 := by unfold fx_X0_phrase; rw [if_neg c_2, if_pos c_3, if_neg c_4]
      exact W.iret (v := 1) hx hb hr (fun t ht hW => ⟨⟨1, [(h0, .inr (0, [.int a0, .int a1, .int a2, .int a3, .int a4, .int a5, .int a6, .int a7, .int a8, .int a9, .int a10, .int a11]))], rfl, ⟨ef.symm, rfl⟩, by rw [ht]; exact hP9, va_K.moved hW.alike hK9, hD9⟩, hS.F ht⟩) hS.2.2 dX0_phrase_40
    refine lv_iload_n hx hb dX0_phrase_20 rfl (lv_at hl 0 rfl) ?_
    refine lv_iconst (v := 2) hx hb dX0_phrase_21 (by decide) ?_
    refine lv_icmp_ne (tgt := 29) hx hb dX0_phrase_22 (by decide) (fun c_7 => ?_) (fun c_7 => ?_)
    · refine lv_iconst (v := 0) hx hb dX0_phrase_29 (by decide) ?_
      refine lv_istore_n (lv' := [(3, .int 0), (2, .int (fx_X0_exception a7)), (0, .ref h0), (1, .int p0)]) hx hb dX0_phrase_30 rfl hl (by decide) rfl (fun ls hl => ?_)
      refine lv_iload_n hx hb dX0_phrase_31 rfl (lv_at hl 0 rfl) ?_
      refine lv_if_eq (tgt := 41) hx hb dX0_phrase_32 (by decide) (fun c9 => ?_) (fun c9 => absurd c9 (by decide))
      refine lv_aload_n hx hb dX0_phrase_41 rfl (lv_at hl 2 rfl) ?_
      refine lv_iload_n hx hb dX0_phrase_42 rfl (lv_at hl 1 rfl) ?_
      have hPc := hP.sub (ws' := [(h0, .inr (0, [.int a0, .int a1, .int a2, .int a3, .int a4, .int a5, .int a6, .int a7, .int a8, .int a9, .int a10, .int a11]))]) [0] rfl
      have hDc := hD.sub (ws' := [(h0, .inr (0, [.int a0, .int a1, .int a2, .int a3, .int a4, .int a5, .int a6, .int a7, .int a8, .int a9, .int a10, .int a11]))]) [0] (by decide) rfl
      have hKc := hK.sub (tys' := []) [] rfl
      have hFc := va_free (wc := [(h0, .inr (0, [.int a0, .int a1, .int a2, .int a3, .int a4, .int a5, .int a6, .int a7, .int a8, .int a9, .int a10, .int a11]))]) hD hS hA [0] rfl
      refine va_calli (va_runV (As := [.int (fx_X0_exception a7)]) (rest := []) ⟨hx, hb, hml, hown, hts⟩ (ct_X0_hasDeclarative l dC dI h0 H.size a0 a1 a2 a3 a4 a5 a6 a7 a8 a9 a10 a11 (fx_X0_exception a7)) (cwV 1 hts gX0_phrase_X0_hasDeclarative rfl rfl rfl (by decide +kernel) ⟨Nat.le_of_ble_eq_true rfl, Nat.le_of_ble_eq_true rfl⟩) ⟨fun a U g mk q => by obtain ⟨q0, q1, qP, qK, qD⟩ := q; exact ⟨q0, q1, qP, va_K.moved (u := U) (U := U.calling g mk a) (Vm.Alike.refl U.vm) qK, qD⟩, va_recv hKc hPc (ci := 0) (q0 := 0) rfl rfl, fun U hU hW => ⟨rfl, by rw [hU], by rw [hU]; exact hPc, va_K.moved hW.alike hKc, hDc.weaken (fun _ _ _ _ => trivial)⟩⟩ rfl rfl hl.1 rfl (lv_room (Nat.le_of_ble_eq_true rfl)) dX0_phrase_43 ⟨(Nat.zero_le _), (Nat.zero_le _)⟩) hS (fun q _ h => hFc q h) hFc (fun r_8 u t H1 locs ht hvm hw hB hz1 hk1 hS => ?_)
      obtain ⟨er, hu⟩ := hw
      subst hu
      subst er
      obtain ⟨hP1, hK1, hD1⟩ := hB
      rw [ht] at hP1
      have hK1 := va_K.moved hvm.symm hK1
      obtain ⟨hP, hD⟩ := va_join (wr := []) (w1 := [(h0, .inr (0, [.int a0, .int a1, .int a2, .int a3, .int a4, .int a5, .int a6, .int a7, .int a8, .int a9, .int a10, .int a11]))]) hP hD [0] [] rfl rfl (by decide) (by decide) hk1 hFc hP1 hD1
      have hK := (hK.sub (tys' := []) [] rfl).app hK1
      generalize H1 = H at hP hS ⊢
      have hP : va_P (dC, dI) vwCl [(h0, .inr (0, [.int a0, .int a1, .int a2, .int a3, .int a4, .int a5, .int a6, .int a7, .int a8, .int a9, .int a10, .int a11]))] H := hP
      have hD : va_D A [(h0, .inr (0, [.int a0, .int a1, .int a2, .int a3, .int a4, .int a5, .int a6, .int a7, .int a8, .int a9, .int a10, .int a11]))] := hD
      have hK : va_K (dC, dI) vwCl [] s := hK
      refine lv_if_eq (tgt := 51) hx hb dX0_phrase_46 (by decide) (fun c_9 => ?_) (fun c_9 => ?_)
      · refine lv_iload_n hx hb dX0_phrase_51 rfl (lv_at hl 0 rfl) ?_
        refine lv_if_eq (tgt := 59) hx hb dX0_phrase_52 (by decide) (fun c9 => ?_) (fun c9 => absurd c9 (by decide))
        refine lv_iconst (v := 3) hx hb dX0_phrase_59 (by decide) ?_
        have hP9 := hP.sub (ws' := [(h0, .inr (0, [.int a0, .int a1, .int a2, .int a3, .int a4, .int a5, .int a6, .int a7, .int a8, .int a9, .int a10, .int a11]))]) [0] rfl
        have hD9 := hD.sub (ws' := [(h0, .inr (0, [.int a0, .int a1, .int a2, .int a3, .int a4, .int a5, .int a6, .int a7, .int a8, .int a9, .int a10, .int a11]))]) [0] (by decide) rfl
        have hK9 := hK.sub (tys' := []) [] rfl
        have ef : fx_X0_phrase a7 a9 p0 = 3 := by unfold fx_X0_phrase; rw [if_neg c_2, if_neg c_3, if_neg c_7, if_pos c_9]
        exact W.iret (v := 3) hx hb hr (fun t ht hW => ⟨⟨3, [(h0, .inr (0, [.int a0, .int a1, .int a2, .int a3, .int a4, .int a5, .int a6, .int a7, .int a8, .int a9, .int a10, .int a11]))], rfl, ⟨ef.symm, rfl⟩, by rw [ht]; exact hP9, va_K.moved hW.alike hK9, hD9⟩, hS.F ht⟩) hS.2.2 dX0_phrase_60
      refine lv_iconst (v := 2) hx hb dX0_phrase_49 (by decide) ?_
      have hP9 := hP.sub (ws' := [(h0, .inr (0, [.int a0, .int a1, .int a2, .int a3, .int a4, .int a5, .int a6, .int a7, .int a8, .int a9, .int a10, .int a11]))]) [0] rfl
      have hD9 := hD.sub (ws' := [(h0, .inr (0, [.int a0, .int a1, .int a2, .int a3, .int a4, .int a5, .int a6, .int a7, .int a8, .int a9, .int a10, .int a11]))]) [0] (by decide) rfl
      have hK9 := hK.sub (tys' := []) [] rfl
      have ef : fx_X0_phrase a7 a9 p0 = 2 := by unfold fx_X0_phrase; rw [if_neg c_2, if_neg c_3, if_neg c_7, if_neg c_9]
      exact W.iret (v := 2) hx hb hr (fun t ht hW => ⟨⟨2, [(h0, .inr (0, [.int a0, .int a1, .int a2, .int a3, .int a4, .int a5, .int a6, .int a7, .int a8, .int a9, .int a10, .int a11]))], rfl, ⟨ef.symm, rfl⟩, by rw [ht]; exact hP9, va_K.moved hW.alike hK9, hD9⟩, hS.F ht⟩) hS.2.2 dX0_phrase_50
    refine lv_iconst (v := 1) hx hb dX0_phrase_25 (by decide) ?_
    refine lv_goto (tgt := 30) hx hb dX0_phrase_26 (by decide) ?_
    refine lv_istore_n (lv' := [(3, .int 1), (2, .int (fx_X0_exception a7)), (0, .ref h0), (1, .int p0)]) hx hb dX0_phrase_30 rfl hl (by decide) rfl (fun ls hl => ?_)
    refine lv_iload_n hx hb dX0_phrase_31 rfl (lv_at hl 0 rfl) ?_
    refine lv_if_eq (tgt := 41) hx hb dX0_phrase_32 (by decide) (fun c9 => absurd c9 (by decide)) (fun c9 => ?_)
    refine lv_iload_n hx hb dX0_phrase_35 rfl (lv_at hl 3 rfl) ?_
    refine lv_if_eq (tgt := 41) hx hb dX0_phrase_36 (by decide) (fun c_10 => ?_) (fun c_10 => ?_)
    · refine lv_aload_n hx hb dX0_phrase_41 rfl (lv_at hl 2 rfl) ?_
      refine lv_iload_n hx hb dX0_phrase_42 rfl (lv_at hl 1 rfl) ?_
      have hPc := hP.sub (ws' := [(h0, .inr (0, [.int a0, .int a1, .int a2, .int a3, .int a4, .int a5, .int a6, .int a7, .int a8, .int a9, .int a10, .int a11]))]) [0] rfl
      have hDc := hD.sub (ws' := [(h0, .inr (0, [.int a0, .int a1, .int a2, .int a3, .int a4, .int a5, .int a6, .int a7, .int a8, .int a9, .int a10, .int a11]))]) [0] (by decide) rfl
      have hKc := hK.sub (tys' := []) [] rfl
      have hFc := va_free (wc := [(h0, .inr (0, [.int a0, .int a1, .int a2, .int a3, .int a4, .int a5, .int a6, .int a7, .int a8, .int a9, .int a10, .int a11]))]) hD hS hA [0] rfl
      refine va_calli (va_runV (As := [.int (fx_X0_exception a7)]) (rest := []) ⟨hx, hb, hml, hown, hts⟩ (ct_X0_hasDeclarative l dC dI h0 H.size a0 a1 a2 a3 a4 a5 a6 a7 a8 a9 a10 a11 (fx_X0_exception a7)) (cwV 1 hts gX0_phrase_X0_hasDeclarative rfl rfl rfl (by decide +kernel) ⟨Nat.le_of_ble_eq_true rfl, Nat.le_of_ble_eq_true rfl⟩) ⟨fun a U g mk q => by obtain ⟨q0, q1, qP, qK, qD⟩ := q; exact ⟨q0, q1, qP, va_K.moved (u := U) (U := U.calling g mk a) (Vm.Alike.refl U.vm) qK, qD⟩, va_recv hKc hPc (ci := 0) (q0 := 0) rfl rfl, fun U hU hW => ⟨rfl, by rw [hU], by rw [hU]; exact hPc, va_K.moved hW.alike hKc, hDc.weaken (fun _ _ _ _ => trivial)⟩⟩ rfl rfl hl.1 rfl (lv_room (Nat.le_of_ble_eq_true rfl)) dX0_phrase_43 ⟨(Nat.zero_le _), (Nat.zero_le _)⟩) hS (fun q _ h => hFc q h) hFc (fun r_11 u t H1 locs ht hvm hw hB hz1 hk1 hS => ?_)
      obtain ⟨er, hu⟩ := hw
      subst hu
      subst er
      obtain ⟨hP1, hK1, hD1⟩ := hB
      rw [ht] at hP1
      have hK1 := va_K.moved hvm.symm hK1
      obtain ⟨hP, hD⟩ := va_join (wr := []) (w1 := [(h0, .inr (0, [.int a0, .int a1, .int a2, .int a3, .int a4, .int a5, .int a6, .int a7, .int a8, .int a9, .int a10, .int a11]))]) hP hD [0] [] rfl rfl (by decide) (by decide) hk1 hFc hP1 hD1
      have hK := (hK.sub (tys' := []) [] rfl).app hK1
      generalize H1 = H at hP hS ⊢
      have hP : va_P (dC, dI) vwCl [(h0, .inr (0, [.int a0, .int a1, .int a2, .int a3, .int a4, .int a5, .int a6, .int a7, .int a8, .int a9, .int a10, .int a11]))] H := hP
      have hD : va_D A [(h0, .inr (0, [.int a0, .int a1, .int a2, .int a3, .int a4, .int a5, .int a6, .int a7, .int a8, .int a9, .int a10, .int a11]))] := hD
      have hK : va_K (dC, dI) vwCl [] s := hK
      refine lv_if_eq (tgt := 51) hx hb dX0_phrase_46 (by decide) (fun c_12 => ?_) (fun c_12 => ?_)
      · refine lv_iload_n hx hb dX0_phrase_51 rfl (lv_at hl 0 rfl) ?_
        refine lv_if_eq (tgt := 59) hx hb dX0_phrase_52 (by decide) (fun c9 => absurd c9 (by decide)) (fun c9 => ?_)
        refine lv_iconst (v := 4) hx hb dX0_phrase_55 (by decide) ?_
        refine lv_goto (tgt := 60) hx hb dX0_phrase_56 (by decide) ?_
        have hP9 := hP.sub (ws' := [(h0, .inr (0, [.int a0, .int a1, .int a2, .int a3, .int a4, .int a5, .int a6, .int a7, .int a8, .int a9, .int a10, .int a11]))]) [0] rfl
        have hD9 := hD.sub (ws' := [(h0, .inr (0, [.int a0, .int a1, .int a2, .int a3, .int a4, .int a5, .int a6, .int a7, .int a8, .int a9, .int a10, .int a11]))]) [0] (by decide) rfl
        have hK9 := hK.sub (tys' := []) [] rfl
        have ef : fx_X0_phrase a7 a9 p0 = 4 := by unfold fx_X0_phrase; rw [if_neg c_2, if_neg c_3, if_pos c_7, if_pos c_10, if_pos c_12]
        exact W.iret (v := 4) hx hb hr (fun t ht hW => ⟨⟨4, [(h0, .inr (0, [.int a0, .int a1, .int a2, .int a3, .int a4, .int a5, .int a6, .int a7, .int a8, .int a9, .int a10, .int a11]))], rfl, ⟨ef.symm, rfl⟩, by rw [ht]; exact hP9, va_K.moved hW.alike hK9, hD9⟩, hS.F ht⟩) hS.2.2 dX0_phrase_60
      refine lv_iconst (v := 2) hx hb dX0_phrase_49 (by decide) ?_
      have hP9 := hP.sub (ws' := [(h0, .inr (0, [.int a0, .int a1, .int a2, .int a3, .int a4, .int a5, .int a6, .int a7, .int a8, .int a9, .int a10, .int a11]))]) [0] rfl
      have hD9 := hD.sub (ws' := [(h0, .inr (0, [.int a0, .int a1, .int a2, .int a3, .int a4, .int a5, .int a6, .int a7, .int a8, .int a9, .int a10, .int a11]))]) [0] (by decide) rfl
      have hK9 := hK.sub (tys' := []) [] rfl
      have ef : fx_X0_phrase a7 a9 p0 = 2 := by unfold fx_X0_phrase; rw [if_neg c_2, if_neg c_3, if_pos c_7, if_pos c_10, if_neg c_12]
      exact W.iret (v := 2) hx hb hr (fun t ht hW => ⟨⟨2, [(h0, .inr (0, [.int a0, .int a1, .int a2, .int a3, .int a4, .int a5, .int a6, .int a7, .int a8, .int a9, .int a10, .int a11]))], rfl, ⟨ef.symm, rfl⟩, by rw [ht]; exact hP9, va_K.moved hW.alike hK9, hD9⟩, hS.F ht⟩) hS.2.2 dX0_phrase_50
    refine lv_iconst (v := 1) hx hb dX0_phrase_39 (by decide) ?_
    have hP9 := hP.sub (ws' := [(h0, .inr (0, [.int a0, .int a1, .int a2, .int a3, .int a4, .int a5, .int a6, .int a7, .int a8, .int a9, .int a10, .int a11]))]) [0] rfl
    have hD9 := hD.sub (ws' := [(h0, .inr (0, [.int a0, .int a1, .int a2, .int a3, .int a4, .int a5, .int a6, .int a7, .int a8, .int a9, .int a10, .int a11]))]) [0] (by decide) rfl
    have hK9 := hK.sub (tys' := []) [] rfl
    have ef : fx_X0_phrase a7 a9 p0 = 1 := by unfold fx_X0_phrase; rw [if_neg c_2, if_neg c_3, if_pos c_7, if_neg c_10]
    exact W.iret (v := 1) hx hb hr (fun t ht hW => ⟨⟨1, [(h0, .inr (0, [.int a0, .int a1, .int a2, .int a3, .int a4, .int a5, .int a6, .int a7, .int a8, .int a9, .int a10, .int a11]))], rfl, ⟨ef.symm, rfl⟩, by rw [ht]; exact hP9, va_K.moved hW.alike hK9, hD9⟩, hS.F ht⟩) hS.2.2 dX0_phrase_40
  refine lv_iconst (v := 0) hx hb dX0_phrase_13 (by decide) ?_
  have hP9 := hP.sub (ws' := [(h0, .inr (0, [.int a0, .int a1, .int a2, .int a3, .int a4, .int a5, .int a6, .int a7, .int a8, .int a9, .int a10, .int a11]))]) [0] rfl
  have hD9 := hD.sub (ws' := [(h0, .inr (0, [.int a0, .int a1, .int a2, .int a3, .int a4, .int a5, .int a6, .int a7, .int a8, .int a9, .int a10, .int a11]))]) [0] (by decide) rfl
  have hK9 := hK.sub (tys' := []) [] rfl
  have ef : fx_X0_phrase a7 a9 p0 = 0 := by unfold fx_X0_phrase; rw [if_pos c_2]
  exact W.iret (v := 0) hx hb hr (fun t ht hW => ⟨⟨0, [(h0, .inr (0, [.int a0, .int a1, .int a2, .int a3, .int a4, .int a5, .int a6, .int a7, .int a8, .int a9, .int a10, .int a11]))], rfl, ⟨ef.symm, rfl⟩, by rw [ht]; exact hP9, va_K.moved hW.alike hK9, hD9⟩, hS.F ht⟩) hS.2.2 dX0_phrase_14
set_option maxHeartbeats 4000000 in
set_option maxRecDepth 100000 in
theorem ct_X0_declarative (l : Launch) (dC : Nat → ClassId) (dI : Nat → Nat → Nat) (h0 : Nat) (sz : Nat) (a0 a1 a2 a3 a4 a5 a6 a7 a8 a9 a10 a11 p0 p1 : Int32) : Met l yX0_declarative wsX0_declarative ({ frames := 1, cells := 0, slots := 0, locals := 21 }) (va_Pc [.ref h0, .int p0, .int p1] (fun U => U.heap.size = sz ∧ va_P (dC, dI) vwCl [(h0, .inr (0, [.int a0, .int a1, .int a2, .int a3, .int a4, .int a5, .int a6, .int a7, .int a8, .int a9, .int a10, .int a11]))] U.heap ∧ va_K (dC, dI) vwCl [] U ∧ va_D (fun _ => True) [(h0, .inr (0, [.int a0, .int a1, .int a2, .int a3, .int a4, .int a5, .int a6, .int a7, .int a8, .int a9, .int a10, .int a11]))])) (va_Qi (fun (r : Int32) (u : va_W) => r = fx_X0_declarative a9 p0 ∧ u = [(h0, .inr (0, [.int a0, .int a1, .int a2, .int a3, .int a4, .int a5, .int a6, .int a7, .int a8, .int (gx_X0_declarative_9 a9 p0 p1), .int a10, .int a11]))]) (at_W dC dI (va_A [(h0, .inr (0, [.int a0, .int a1, .int a2, .int a3, .int a4, .int a5, .int a6, .int a7, .int a8, .int a9, .int a10, .int a11]))] sz)) (va_A [(h0, .inr (0, [.int a0, .int a1, .int a2, .int a3, .int a4, .int a5, .int a6, .int a7, .int a8, .int a9, .int a10, .int a11]))] sz)) 0 0 (va_A [(h0, .inr (0, [.int a0, .int a1, .int a2, .int a3, .int a4, .int a5, .int a6, .int a7, .int a8, .int a9, .int a10, .int a11]))] sz) := by
  refine Met.ofW (cc := cX0_declarative) (maxL := 5) (ret := (some .int)) (by decide) rfl ?_
  intro p e s m args below meth c s₁ B hml hv
  obtain ⟨rfl, hsz, hP, hK, hD0⟩ := hv
  have hx := B.exec
  have hb := B.bytes
  have hr := B.returns
  have hts := atoms_spec (ws := wsX0_declarative) B.pre
  have hown : s.vm.findClass RX0 = some m.cls := findClass_of_methodNamed B.named
  have hlocks := B.notSynchronized
  subst hsz
  have hD := hD0.self (sz := s.heap.size)
  generalize hAe : va_A [(h0, .inr (0, [.int a0, .int a1, .int a2, .int a3, .int a4, .int a5, .int a6, .int a7, .int a8, .int a9, .int a10, .int a11]))] s.heap.size = A at hD ⊢
  have hA : ∀ q : Nat, s.heap.size ≤ q → A q := fun q h => by rw [← hAe]; exact Or.inr h
  have hS : va_S A s.heap s.heap [] := va_S.rf
  have hP : va_P (dC, dI) vwCl [(h0, .inr (0, [.int a0, .int a1, .int a2, .int a3, .int a4, .int a5, .int a6, .int a7, .int a8, .int a9, .int a10, .int a11]))] s.heap := hP
  have hl := lv_entry ([.ref h0, .int p0, .int p1]) (n := 5) (Nat.le_of_ble_eq_true rfl)
  rw [lg_entry_eq]
  generalize (lg_sl ([.ref h0, .int p0, .int p1]) ++ List.replicate (5 - (lg_sl ([.ref h0, .int p0, .int p1])).length) Slot.unset).toArray = ls at hl ⊢
  have hl : lv_has ls 5 [(0, .ref h0), (1, .int p0), (2, .int p1)] := hl
  refine lv_iload_n hx hb dX0_declarative_0 rfl (lv_at hl 1 rfl) ?_
  refine lv_iconst (v := 1) hx hb dX0_declarative_1 (by decide) ?_
  refine lv_icmp_lt (tgt := 11) hx hb dX0_declarative_2 (by decide) (fun c_1 => ?_) (fun c_1 => ?_)
  · refine lv_bipush (v := (-4)) hx hb dX0_declarative_11 (by decide) ?_
    have hP9 := hP.sub (ws' := [(h0, .inr (0, [.int a0, .int a1, .int a2, .int a3, .int a4, .int a5, .int a6, .int a7, .int a8, .int a9, .int a10, .int a11]))]) [0] rfl
    have hD9 := hD.sub (ws' := [(h0, .inr (0, [.int a0, .int a1, .int a2, .int a3, .int a4, .int a5, .int a6, .int a7, .int a8, .int a9, .int a10, .int a11]))]) [0] (by decide) rfl
    have hK9 := hK.sub (tys' := []) [] rfl
    have eg_9 : gx_X0_declarative_9 a9 p0 p1 = a9 := by unfold gx_X0_declarative_9; rw [if_pos c_1]
    have ef : fx_X0_declarative a9 p0 = (-4) := by unfold fx_X0_declarative; rw [if_pos c_1]
    exact W.iret (v := (-4)) hx hb hr (fun t ht hW => ⟨⟨(-4), [(h0, .inr (0, [.int a0, .int a1, .int a2, .int a3, .int a4, .int a5, .int a6, .int a7, .int a8, .int a9, .int a10, .int a11]))], rfl, ⟨ef.symm, by rw [eg_9]⟩, by rw [ht]; exact hP9, va_K.moved hW.alike hK9, hD9⟩, hS.F ht⟩) hS.2.2 dX0_declarative_13
  refine lv_iload_n hx hb dX0_declarative_5 rfl (lv_at hl 1 rfl) ?_
  refine lv_bipush (v := 6) hx hb dX0_declarative_6 (by decide) ?_
  refine lv_icmp_le (tgt := 14) hx hb dX0_declarative_8 (by decide) (fun c_2 => ?_) (fun c_2 => ?_)
  · refine lv_aload_n hx hb dX0_declarative_14 rfl (lv_at hl 0 rfl) ?_
    refine lv_iload_n hx hb dX0_declarative_15 rfl (lv_at hl 1 rfl) ?_
    have hPc := hP.sub (ws' := [(h0, .inr (0, [.int a0, .int a1, .int a2, .int a3, .int a4, .int a5, .int a6, .int a7, .int a8, .int a9, .int a10, .int a11]))]) [0] rfl
    have hDc := hD.sub (ws' := [(h0, .inr (0, [.int a0, .int a1, .int a2, .int a3, .int a4, .int a5, .int a6, .int a7, .int a8, .int a9, .int a10, .int a11]))]) [0] (by decide) rfl
    have hKc := hK.sub (tys' := []) [] rfl
    have hFc := va_free (wc := [(h0, .inr (0, [.int a0, .int a1, .int a2, .int a3, .int a4, .int a5, .int a6, .int a7, .int a8, .int a9, .int a10, .int a11]))]) hD hS hA [0] rfl
    refine va_calli (va_runV (As := [.int p0]) (rest := []) ⟨hx, hb, hml, hown, hts⟩ (ct_X0_hasDeclarative l dC dI h0 s.heap.size a0 a1 a2 a3 a4 a5 a6 a7 a8 a9 a10 a11 p0) (cwV 1 hts gX0_declarative_X0_hasDeclarative rfl rfl rfl (by decide +kernel) ⟨Nat.le_of_ble_eq_true rfl, Nat.le_of_ble_eq_true rfl⟩) ⟨fun a U g mk q => by obtain ⟨q0, q1, qP, qK, qD⟩ := q; exact ⟨q0, q1, qP, va_K.moved (u := U) (U := U.calling g mk a) (Vm.Alike.refl U.vm) qK, qD⟩, va_recv hKc hPc (ci := 0) (q0 := 0) rfl rfl, fun U hU hW => ⟨rfl, by rw [hU], by rw [hU]; exact hPc, va_K.moved hW.alike hKc, hDc.weaken (fun _ _ _ _ => trivial)⟩⟩ rfl rfl hl.1 rfl (lv_room (Nat.le_of_ble_eq_true rfl)) dX0_declarative_16 ⟨(Nat.zero_le _), (Nat.zero_le _)⟩) hS (fun q _ h => hFc q h) hFc (fun r_3 u t H1 locs ht hvm hw hB hz1 hk1 hS => ?_)
    obtain ⟨er, hu⟩ := hw
    subst hu
    subst er
    obtain ⟨hP1, hK1, hD1⟩ := hB
    rw [ht] at hP1
    have hK1 := va_K.moved hvm.symm hK1
    obtain ⟨hP, hD⟩ := va_join (wr := []) (w1 := [(h0, .inr (0, [.int a0, .int a1, .int a2, .int a3, .int a4, .int a5, .int a6, .int a7, .int a8, .int a9, .int a10, .int a11]))]) hP hD [0] [] rfl rfl (by decide) (by decide) hk1 hFc hP1 hD1
    have hK := (hK.sub (tys' := []) [] rfl).app hK1
    generalize H1 = H at hP hS ⊢
    have hP : va_P (dC, dI) vwCl [(h0, .inr (0, [.int a0, .int a1, .int a2, .int a3, .int a4, .int a5, .int a6, .int a7, .int a8, .int a9, .int a10, .int a11]))] H := hP
    have hD : va_D A [(h0, .inr (0, [.int a0, .int a1, .int a2, .int a3, .int a4, .int a5, .int a6, .int a7, .int a8, .int a9, .int a10, .int a11]))] := hD
    have hK : va_K (dC, dI) vwCl [] s := hK
    refine lv_if_eq (tgt := 26) hx hb dX0_declarative_19 (by decide) (fun c_4 => ?_) (fun c_4 => ?_)
    · refine lv_iconst (v := 0) hx hb dX0_declarative_26 (by decide) ?_
      refine lv_istore_n (lv' := [(3, .int 0), (0, .ref h0), (1, .int p0), (2, .int p1)]) hx hb dX0_declarative_27 rfl hl (by decide) rfl (fun ls hl => ?_)
      refine lv_iconst (v := 1) hx hb dX0_declarative_28 (by decide) ?_
      refine lv_iload_n hx hb dX0_declarative_29 rfl (lv_at hl 2 rfl) ?_
      refine lv_ishl hx hb dX0_declarative_30 ?_
      refine lv_istore (lv' := [(4, .int (1 <<< (p0 &&& 31))), (3, .int 0), (0, .ref h0), (1, .int p0), (2, .int p1)]) hx hb dX0_declarative_31 hl (by decide) rfl (fun ls hl => ?_)
      refine lv_aload_n hx hb dX0_declarative_33 rfl (lv_at hl 2 rfl) ?_
      refine lv_iload_n hx hb dX0_declarative_34 rfl (lv_at hl 4 rfl) ?_
      refine lv_if_eq (tgt := 48) hx hb dX0_declarative_35 (by decide) (fun c_5 => ?_) (fun c_5 => ?_)
      · refine lv_aload_n hx hb dX0_declarative_48 rfl (lv_at hl 2 rfl) ?_
        refine va_get (D := (dC, dI)) (ci := 0) (v := .int a9) (C := RX0) (T := TX0) (N := 12) hx hb hts (fun _ h => List.mem_cons_of_mem _ (List.mem_append_right _ h)) hown hK hP 0 rfl rfl 9 (by decide) (hts (.fieldLink RX0 35 "FileStatus" "declaratives" "I") (by decide +kernel)) (fun _ h9 => h9) rfl dX0_declarative_49 ?_
        refine lv_iload hx hb dX0_declarative_52 (lv_at hl 0 rfl) ?_
        refine lv_iconst (v := (-1)) hx hb dX0_declarative_54 (by decide) ?_
        refine lv_ixor hx hb dX0_declarative_55 ?_
        refine lv_iand hx hb dX0_declarative_56 ?_
        refine va_put (D := (dC, dI)) (ci := 0) (v := .int (a9 &&& ((1 <<< (p0 &&& 31)) ^^^ (-1)))) (ty := .int) (C := RX0) (T := TX0) (N := 12) hx hb hts (fun _ h => List.mem_cons_of_mem _ (List.mem_append_right _ h)) tyX0 tyX0_ok nmX0 hown hK hP hD hS 0 rfl rfl 9 (by decide) (hts (.fieldLink RX0 35 "FileStatus" "declaratives" "I") (by decide +kernel)) (fun _ h9 => h9) rfl (by decide +kernel) rfl rfl (Nat.le_of_ble_eq_true rfl) dX0_declarative_57 (fun H locs hP hD hS => ?_)
        have hP : va_P (dC, dI) vwCl [(h0, .inr (0, [.int a0, .int a1, .int a2, .int a3, .int a4, .int a5, .int a6, .int a7, .int a8, .int (a9 &&& ((1 <<< (p0 &&& 31)) ^^^ (-1))), .int a10, .int a11]))] H := hP
        have hD : va_D A [(h0, .inr (0, [.int a0, .int a1, .int a2, .int a3, .int a4, .int a5, .int a6, .int a7, .int a8, .int (a9 &&& ((1 <<< (p0 &&& 31)) ^^^ (-1))), .int a10, .int a11]))] := hD
        refine lv_iload_n hx hb dX0_declarative_60 rfl (lv_at hl 1 rfl) ?_
        have hP9 := hP.sub (ws' := [(h0, .inr (0, [.int a0, .int a1, .int a2, .int a3, .int a4, .int a5, .int a6, .int a7, .int a8, .int (a9 &&& ((1 <<< (p0 &&& 31)) ^^^ (-1))), .int a10, .int a11]))]) [0] rfl
        have hD9 := hD.sub (ws' := [(h0, .inr (0, [.int a0, .int a1, .int a2, .int a3, .int a4, .int a5, .int a6, .int a7, .int a8, .int (a9 &&& ((1 <<< (p0 &&& 31)) ^^^ (-1))), .int a10, .int a11]))]) [0] (by decide) rfl
        have hK9 := hK.sub (tys' := []) [] rfl
        have eg_9 : gx_X0_declarative_9 a9 p0 p1 = a9 &&& ((1 <<< (p0 &&& 31)) ^^^ (-1)) := by unfold gx_X0_declarative_9; rw [if_neg c_1, if_pos c_2, if_pos c_5]
        have ef : fx_X0_declarative a9 p0 = 0 := by unfold fx_X0_declarative; rw [if_neg c_1, if_pos c_2, if_pos c_4]
        exact W.iret (v := 0) hx hb hr (fun t ht hW => ⟨⟨0, [(h0, .inr (0, [.int a0, .int a1, .int a2, .int a3, .int a4, .int a5, .int a6, .int a7, .int a8, .int (a9 &&& ((1 <<< (p0 &&& 31)) ^^^ (-1))), .int a10, .int a11]))], rfl, ⟨ef.symm, by rw [eg_9]⟩, by rw [ht]; exact hP9, va_K.moved hW.alike hK9, hD9⟩, hS.F ht⟩) hS.2.2 dX0_declarative_61
      refine lv_aload_n hx hb dX0_declarative_38 rfl (lv_at hl 2 rfl) ?_
      refine va_get (D := (dC, dI)) (ci := 0) (v := .int a9) (C := RX0) (T := TX0) (N := 12) hx hb hts (fun _ h => List.mem_cons_of_mem _ (List.mem_append_right _ h)) hown hK hP 0 rfl rfl 9 (by decide) (hts (.fieldLink RX0 35 "FileStatus" "declaratives" "I") (by decide +kernel)) (fun _ h9 => h9) rfl dX0_declarative_39 ?_
      refine lv_iload hx hb dX0_declarative_42 (lv_at hl 0 rfl) ?_
      refine lv_ior hx hb dX0_declarative_44 ?_
      refine lv_goto (tgt := 57) hx hb dX0_declarative_45 (by decide) ?_
      refine va_put (D := (dC, dI)) (ci := 0) (v := .int (a9 ||| (1 <<< (p0 &&& 31)))) (ty := .int) (C := RX0) (T := TX0) (N := 12) hx hb hts (fun _ h => List.mem_cons_of_mem _ (List.mem_append_right _ h)) tyX0 tyX0_ok nmX0 hown hK hP hD hS 0 rfl rfl 9 (by decide) (hts (.fieldLink RX0 35 "FileStatus" "declaratives" "I") (by decide +kernel)) (fun _ h9 => h9) rfl (by decide +kernel) rfl rfl (Nat.le_of_ble_eq_true rfl) dX0_declarative_57 (fun H locs hP hD hS => ?_)
      have hP : va_P (dC, dI) vwCl [(h0, .inr (0, [.int a0, .int a1, .int a2, .int a3, .int a4, .int a5, .int a6, .int a7, .int a8, .int (a9 ||| (1 <<< (p0 &&& 31))), .int a10, .int a11]))] H := hP
      have hD : va_D A [(h0, .inr (0, [.int a0, .int a1, .int a2, .int a3, .int a4, .int a5, .int a6, .int a7, .int a8, .int (a9 ||| (1 <<< (p0 &&& 31))), .int a10, .int a11]))] := hD
      refine lv_iload_n hx hb dX0_declarative_60 rfl (lv_at hl 1 rfl) ?_
      have hP9 := hP.sub (ws' := [(h0, .inr (0, [.int a0, .int a1, .int a2, .int a3, .int a4, .int a5, .int a6, .int a7, .int a8, .int (a9 ||| (1 <<< (p0 &&& 31))), .int a10, .int a11]))]) [0] rfl
      have hD9 := hD.sub (ws' := [(h0, .inr (0, [.int a0, .int a1, .int a2, .int a3, .int a4, .int a5, .int a6, .int a7, .int a8, .int (a9 ||| (1 <<< (p0 &&& 31))), .int a10, .int a11]))]) [0] (by decide) rfl
      have hK9 := hK.sub (tys' := []) [] rfl
      have eg_9 : gx_X0_declarative_9 a9 p0 p1 = a9 ||| (1 <<< (p0 &&& 31)) := by unfold gx_X0_declarative_9; rw [if_neg c_1, if_pos c_2, if_neg c_5]
      have ef : fx_X0_declarative a9 p0 = 0 := by unfold fx_X0_declarative; rw [if_neg c_1, if_pos c_2, if_pos c_4]
      exact W.iret (v := 0) hx hb hr (fun t ht hW => ⟨⟨0, [(h0, .inr (0, [.int a0, .int a1, .int a2, .int a3, .int a4, .int a5, .int a6, .int a7, .int a8, .int (a9 ||| (1 <<< (p0 &&& 31))), .int a10, .int a11]))], rfl, ⟨ef.symm, by rw [eg_9]⟩, by rw [ht]; exact hP9, va_K.moved hW.alike hK9, hD9⟩, hS.F ht⟩) hS.2.2 dX0_declarative_61
    refine lv_iconst (v := 1) hx hb dX0_declarative_22 (by decide) ?_
    refine lv_goto (tgt := 27) hx hb dX0_declarative_23 (by decide) ?_
    refine lv_istore_n (lv' := [(3, .int 1), (0, .ref h0), (1, .int p0), (2, .int p1)]) hx hb dX0_declarative_27 rfl hl (by decide) rfl (fun ls hl => ?_)
    refine lv_iconst (v := 1) hx hb dX0_declarative_28 (by decide) ?_
    refine lv_iload_n hx hb dX0_declarative_29 rfl (lv_at hl 2 rfl) ?_
    refine lv_ishl hx hb dX0_declarative_30 ?_
    refine lv_istore (lv' := [(4, .int (1 <<< (p0 &&& 31))), (3, .int 1), (0, .ref h0), (1, .int p0), (2, .int p1)]) hx hb dX0_declarative_31 hl (by decide) rfl (fun ls hl => ?_)
    refine lv_aload_n hx hb dX0_declarative_33 rfl (lv_at hl 2 rfl) ?_
    refine lv_iload_n hx hb dX0_declarative_34 rfl (lv_at hl 4 rfl) ?_
    refine lv_if_eq (tgt := 48) hx hb dX0_declarative_35 (by decide) (fun c_6 => ?_) (fun c_6 => ?_)
    · refine lv_aload_n hx hb dX0_declarative_48 rfl (lv_at hl 2 rfl) ?_
      refine va_get (D := (dC, dI)) (ci := 0) (v := .int a9) (C := RX0) (T := TX0) (N := 12) hx hb hts (fun _ h => List.mem_cons_of_mem _ (List.mem_append_right _ h)) hown hK hP 0 rfl rfl 9 (by decide) (hts (.fieldLink RX0 35 "FileStatus" "declaratives" "I") (by decide +kernel)) (fun _ h9 => h9) rfl dX0_declarative_49 ?_
      refine lv_iload hx hb dX0_declarative_52 (lv_at hl 0 rfl) ?_
      refine lv_iconst (v := (-1)) hx hb dX0_declarative_54 (by decide) ?_
      refine lv_ixor hx hb dX0_declarative_55 ?_
      refine lv_iand hx hb dX0_declarative_56 ?_
      refine va_put (D := (dC, dI)) (ci := 0) (v := .int (a9 &&& ((1 <<< (p0 &&& 31)) ^^^ (-1)))) (ty := .int) (C := RX0) (T := TX0) (N := 12) hx hb hts (fun _ h => List.mem_cons_of_mem _ (List.mem_append_right _ h)) tyX0 tyX0_ok nmX0 hown hK hP hD hS 0 rfl rfl 9 (by decide) (hts (.fieldLink RX0 35 "FileStatus" "declaratives" "I") (by decide +kernel)) (fun _ h9 => h9) rfl (by decide +kernel) rfl rfl (Nat.le_of_ble_eq_true rfl) dX0_declarative_57 (fun H locs hP hD hS => ?_)
      have hP : va_P (dC, dI) vwCl [(h0, .inr (0, [.int a0, .int a1, .int a2, .int a3, .int a4, .int a5, .int a6, .int a7, .int a8, .int (a9 &&& ((1 <<< (p0 &&& 31)) ^^^ (-1))), .int a10, .int a11]))] H := hP
      have hD : va_D A [(h0, .inr (0, [.int a0, .int a1, .int a2, .int a3, .int a4, .int a5, .int a6, .int a7, .int a8, .int (a9 &&& ((1 <<< (p0 &&& 31)) ^^^ (-1))), .int a10, .int a11]))] := hD
      refine lv_iload_n hx hb dX0_declarative_60 rfl (lv_at hl 1 rfl) ?_
      have hP9 := hP.sub (ws' := [(h0, .inr (0, [.int a0, .int a1, .int a2, .int a3, .int a4, .int a5, .int a6, .int a7, .int a8, .int (a9 &&& ((1 <<< (p0 &&& 31)) ^^^ (-1))), .int a10, .int a11]))]) [0] rfl
      have hD9 := hD.sub (ws' := [(h0, .inr (0, [.int a0, .int a1, .int a2, .int a3, .int a4, .int a5, .int a6, .int a7, .int a8, .int (a9 &&& ((1 <<< (p0 &&& 31)) ^^^ (-1))), .int a10, .int a11]))]) [0] (by decide) rfl
      have hK9 := hK.sub (tys' := []) [] rfl
      have eg_9 : gx_X0_declarative_9 a9 p0 p1 = a9 &&& ((1 <<< (p0 &&& 31)) ^^^ (-1)) := by unfold gx_X0_declarative_9; rw [if_neg c_1, if_pos c_2, if_pos c_6]
      have ef : fx_X0_declarative a9 p0 = 1 := by unfold fx_X0_declarative; rw [if_neg c_1, if_pos c_2, if_neg c_4]
      exact W.iret (v := 1) hx hb hr (fun t ht hW => ⟨⟨1, [(h0, .inr (0, [.int a0, .int a1, .int a2, .int a3, .int a4, .int a5, .int a6, .int a7, .int a8, .int (a9 &&& ((1 <<< (p0 &&& 31)) ^^^ (-1))), .int a10, .int a11]))], rfl, ⟨ef.symm, by rw [eg_9]⟩, by rw [ht]; exact hP9, va_K.moved hW.alike hK9, hD9⟩, hS.F ht⟩) hS.2.2 dX0_declarative_61
    refine lv_aload_n hx hb dX0_declarative_38 rfl (lv_at hl 2 rfl) ?_
    refine va_get (D := (dC, dI)) (ci := 0) (v := .int a9) (C := RX0) (T := TX0) (N := 12) hx hb hts (fun _ h => List.mem_cons_of_mem _ (List.mem_append_right _ h)) hown hK hP 0 rfl rfl 9 (by decide) (hts (.fieldLink RX0 35 "FileStatus" "declaratives" "I") (by decide +kernel)) (fun _ h9 => h9) rfl dX0_declarative_39 ?_
    refine lv_iload hx hb dX0_declarative_42 (lv_at hl 0 rfl) ?_
    refine lv_ior hx hb dX0_declarative_44 ?_
    refine lv_goto (tgt := 57) hx hb dX0_declarative_45 (by decide) ?_
    refine va_put (D := (dC, dI)) (ci := 0) (v := .int (a9 ||| (1 <<< (p0 &&& 31)))) (ty := .int) (C := RX0) (T := TX0) (N := 12) hx hb hts (fun _ h => List.mem_cons_of_mem _ (List.mem_append_right _ h)) tyX0 tyX0_ok nmX0 hown hK hP hD hS 0 rfl rfl 9 (by decide) (hts (.fieldLink RX0 35 "FileStatus" "declaratives" "I") (by decide +kernel)) (fun _ h9 => h9) rfl (by decide +kernel) rfl rfl (Nat.le_of_ble_eq_true rfl) dX0_declarative_57 (fun H locs hP hD hS => ?_)
    have hP : va_P (dC, dI) vwCl [(h0, .inr (0, [.int a0, .int a1, .int a2, .int a3, .int a4, .int a5, .int a6, .int a7, .int a8, .int (a9 ||| (1 <<< (p0 &&& 31))), .int a10, .int a11]))] H := hP
    have hD : va_D A [(h0, .inr (0, [.int a0, .int a1, .int a2, .int a3, .int a4, .int a5, .int a6, .int a7, .int a8, .int (a9 ||| (1 <<< (p0 &&& 31))), .int a10, .int a11]))] := hD
    refine lv_iload_n hx hb dX0_declarative_60 rfl (lv_at hl 1 rfl) ?_
    have hP9 := hP.sub (ws' := [(h0, .inr (0, [.int a0, .int a1, .int a2, .int a3, .int a4, .int a5, .int a6, .int a7, .int a8, .int (a9 ||| (1 <<< (p0 &&& 31))), .int a10, .int a11]))]) [0] rfl
    have hD9 := hD.sub (ws' := [(h0, .inr (0, [.int a0, .int a1, .int a2, .int a3, .int a4, .int a5, .int a6, .int a7, .int a8, .int (a9 ||| (1 <<< (p0 &&& 31))), .int a10, .int a11]))]) [0] (by decide) rfl
    have hK9 := hK.sub (tys' := []) [] rfl
    have eg_9 : gx_X0_declarative_9 a9 p0 p1 = a9 ||| (1 <<< (p0 &&& 31)) := by unfold gx_X0_declarative_9; rw [if_neg c_1, if_pos c_2, if_neg c_6]
    have ef : fx_X0_declarative a9 p0 = 1 := by unfold fx_X0_declarative; rw [if_neg c_1, if_pos c_2, if_neg c_4]
    exact W.iret (v := 1) hx hb hr (fun t ht hW => ⟨⟨1, [(h0, .inr (0, [.int a0, .int a1, .int a2, .int a3, .int a4, .int a5, .int a6, .int a7, .int a8, .int (a9 ||| (1 <<< (p0 &&& 31))), .int a10, .int a11]))], rfl, ⟨ef.symm, by rw [eg_9]⟩, by rw [ht]; exact hP9, va_K.moved hW.alike hK9, hD9⟩, hS.F ht⟩) hS.2.2 dX0_declarative_61
  refine lv_bipush (v := (-4)) hx hb dX0_declarative_11 (by decide) ?_
  have hP9 := hP.sub (ws' := [(h0, .inr (0, [.int a0, .int a1, .int a2, .int a3, .int a4, .int a5, .int a6, .int a7, .int a8, .int a9, .int a10, .int a11]))]) [0] rfl
  have hD9 := hD.sub (ws' := [(h0, .inr (0, [.int a0, .int a1, .int a2, .int a3, .int a4, .int a5, .int a6, .int a7, .int a8, .int a9, .int a10, .int a11]))]) [0] (by decide) rfl
  have hK9 := hK.sub (tys' := []) [] rfl
  have eg_9 : gx_X0_declarative_9 a9 p0 p1 = a9 := by unfold gx_X0_declarative_9; rw [if_neg c_1, if_neg c_2]
  have ef : fx_X0_declarative a9 p0 = (-4) := by unfold fx_X0_declarative; rw [if_neg c_1, if_neg c_2]
  exact W.iret (v := (-4)) hx hb hr (fun t ht hW => ⟨⟨(-4), [(h0, .inr (0, [.int a0, .int a1, .int a2, .int a3, .int a4, .int a5, .int a6, .int a7, .int a8, .int a9, .int a10, .int a11]))], rfl, ⟨ef.symm, by rw [eg_9]⟩, by rw [ht]; exact hP9, va_K.moved hW.alike hK9, hD9⟩, hS.F ht⟩) hS.2.2 dX0_declarative_13
set_option maxHeartbeats 4000000 in
set_option maxRecDepth 100000 in
theorem ct_X0_both (l : Launch) (dC : Nat → ClassId) (dI : Nat → Nat → Nat) (h0 : Nat) (sz : Nat) (a0 a1 a2 a3 a4 a5 a6 a7 a8 a9 a10 a11 p0 p1 : Int32) : Met l yX0_both wsX0_both ({ frames := 2, cells := 0, slots := 0, locals := 42 }) (va_Pc [.ref h0, .int p0, .int p1] (fun U => U.heap.size = sz ∧ va_P (dC, dI) vwCl [(h0, .inr (0, [.int a0, .int a1, .int a2, .int a3, .int a4, .int a5, .int a6, .int a7, .int a8, .int a9, .int a10, .int a11]))] U.heap ∧ va_K (dC, dI) vwCl [] U ∧ va_D (fun _ => True) [(h0, .inr (0, [.int a0, .int a1, .int a2, .int a3, .int a4, .int a5, .int a6, .int a7, .int a8, .int a9, .int a10, .int a11]))])) (va_Qi (fun (r : Int32) (u : va_W) => r = fx_X0_both p0 p1 ∧ u = [(h0, .inr (0, [.int a0, .int a1, .int a2, .int a3, .int a4, .int a5, .int a6, .int a7, .int a8, .int a9, .int a10, .int a11]))]) (at_W dC dI (va_A [(h0, .inr (0, [.int a0, .int a1, .int a2, .int a3, .int a4, .int a5, .int a6, .int a7, .int a8, .int a9, .int a10, .int a11]))] sz)) (va_A [(h0, .inr (0, [.int a0, .int a1, .int a2, .int a3, .int a4, .int a5, .int a6, .int a7, .int a8, .int a9, .int a10, .int a11]))] sz)) 0 0 (va_A [(h0, .inr (0, [.int a0, .int a1, .int a2, .int a3, .int a4, .int a5, .int a6, .int a7, .int a8, .int a9, .int a10, .int a11]))] sz) := by
  refine Met.ofW (cc := cX0_both) (maxL := 5) (ret := (some .int)) (by decide) rfl ?_
  intro p e s m args below meth c s₁ B hml hv
  obtain ⟨rfl, hsz, hP, hK, hD0⟩ := hv
  have hx := B.exec
  have hb := B.bytes
  have hr := B.returns
  have hts := atoms_spec (ws := wsX0_both) B.pre
  have hown : s.vm.findClass RX0 = some m.cls := findClass_of_methodNamed B.named
  have hlocks := B.notSynchronized
  subst hsz
  have hD := hD0.self (sz := s.heap.size)
  generalize hAe : va_A [(h0, .inr (0, [.int a0, .int a1, .int a2, .int a3, .int a4, .int a5, .int a6, .int a7, .int a8, .int a9, .int a10, .int a11]))] s.heap.size = A at hD ⊢
  have hA : ∀ q : Nat, s.heap.size ≤ q → A q := fun q h => by rw [← hAe]; exact Or.inr h
  have hS : va_S A s.heap s.heap [] := va_S.rf
  have hP : va_P (dC, dI) vwCl [(h0, .inr (0, [.int a0, .int a1, .int a2, .int a3, .int a4, .int a5, .int a6, .int a7, .int a8, .int a9, .int a10, .int a11]))] s.heap := hP
  have hl := lv_entry ([.ref h0, .int p0, .int p1]) (n := 5) (Nat.le_of_ble_eq_true rfl)
  rw [lg_entry_eq]
  generalize (lg_sl ([.ref h0, .int p0, .int p1]) ++ List.replicate (5 - (lg_sl ([.ref h0, .int p0, .int p1])).length) Slot.unset).toArray = ls at hl ⊢
  have hl : lv_has ls 5 [(0, .ref h0), (1, .int p0), (2, .int p1)] := hl
  refine lv_iload_n hx hb dX0_both_0 rfl (lv_at hl 1 rfl) ?_
  have hPc := hP.sub (ws' := []) [] rfl
  have hDc := hD.sub (ws' := []) [] (by decide) rfl
  have hKc := hK.sub (tys' := []) [] rfl
  have hFc := va_free (wc := []) hD hS hA [] rfl
  refine va_calli (va_runS (As := [.int p0]) (rest := []) ⟨hx, hb, hml, hown, hts⟩ (ct_X0_isStatus l dC dI s.heap.size p0) (va_cwS 1 hts gX0_both_X0_isStatus rfl rfl rfl (by decide +kernel) ⟨Nat.le_of_ble_eq_true rfl, Nat.le_of_ble_eq_true rfl⟩) ⟨fun a U g mk q => by obtain ⟨q0, q1, qP, qK, qD⟩ := q; exact ⟨q0, q1, qP, va_K.moved (u := U) (U := U.calling g mk a) (Vm.Alike.refl U.vm) qK, qD⟩, fun U hU hW => ⟨rfl, by rw [hU], by rw [hU]; exact hPc, va_K.moved hW.alike hKc, hDc.weaken (fun _ _ _ _ => trivial)⟩⟩ rfl rfl hl.1 rfl (lv_room (Nat.le_of_ble_eq_true rfl)) dX0_both_1 ⟨(Nat.zero_le _), (Nat.zero_le _)⟩) hS (fun q _ h => hFc q h) hFc (fun r_1 u t H1 locs ht hvm hw hB hz1 hk1 hS => ?_)
  obtain ⟨er, hu⟩ := hw
  subst hu
  subst er
  obtain ⟨hP1, hK1, hD1⟩ := hB
  rw [ht] at hP1
  have hK1 := va_K.moved hvm.symm hK1
  obtain ⟨hP, hD⟩ := va_join (wr := [(h0, .inr (0, [.int a0, .int a1, .int a2, .int a3, .int a4, .int a5, .int a6, .int a7, .int a8, .int a9, .int a10, .int a11]))]) (w1 := []) hP hD [] [0] rfl rfl (by decide) (by decide) hk1 hFc hP1 hD1
  have hK := (hK.sub (tys' := []) [] rfl).app hK1
  generalize H1 = H at hP hS ⊢
  have hP : va_P (dC, dI) vwCl [(h0, .inr (0, [.int a0, .int a1, .int a2, .int a3, .int a4, .int a5, .int a6, .int a7, .int a8, .int a9, .int a10, .int a11]))] H := hP
  have hD : va_D A [(h0, .inr (0, [.int a0, .int a1, .int a2, .int a3, .int a4, .int a5, .int a6, .int a7, .int a8, .int a9, .int a10, .int a11]))] := hD
  have hK : va_K (dC, dI) vwCl [] s := hK
  refine lv_if_eq (tgt := 14) hx hb dX0_both_4 (by decide) (fun c_2 => ?_) (fun c_2 => ?_)
  · refine lv_iconst (v := (-1)) hx hb dX0_both_14 (by decide) ?_
    have hP9 := hP.sub (ws' := [(h0, .inr (0, [.int a0, .int a1, .int a2, .int a3, .int a4, .int a5, .int a6, .int a7, .int a8, .int a9, .int a10, .int a11]))]) [0] rfl
    have hD9 := hD.sub (ws' := [(h0, .inr (0, [.int a0, .int a1, .int a2, .int a3, .int a4, .int a5, .int a6, .int a7, .int a8, .int a9, .int a10, .int a11]))]) [0] (by decide) rfl
    have hK9 := hK.sub (tys' := []) [] rfl
    have ef : fx_X0_both p0 p1 = (-1) := by unfold fx_X0_both; rw [if_pos c_2]
    exact W.iret (v := (-1)) hx hb hr (fun t ht hW => ⟨⟨(-1), [(h0, .inr (0, [.int a0, .int a1, .int a2, .int a3, .int a4, .int a5, .int a6, .int a7, .int a8, .int a9, .int a10, .int a11]))], rfl, ⟨ef.symm, rfl⟩, by rw [ht]; exact hP9, va_K.moved hW.alike hK9, hD9⟩, hS.F ht⟩) hS.2.2 dX0_both_15
  refine lv_iload_n hx hb dX0_both_7 rfl (lv_at hl 2 rfl) ?_
  have hPc := hP.sub (ws' := []) [] rfl
  have hDc := hD.sub (ws' := []) [] (by decide) rfl
  have hKc := hK.sub (tys' := []) [] rfl
  have hFc := va_free (wc := []) hD hS hA [] rfl
  refine va_calli (va_runS (As := [.int p1]) (rest := []) ⟨hx, hb, hml, hown, hts⟩ (ct_X0_isStatus l dC dI H.size p1) (va_cwS 1 hts gX0_both_X0_isStatus rfl rfl rfl (by decide +kernel) ⟨Nat.le_of_ble_eq_true rfl, Nat.le_of_ble_eq_true rfl⟩) ⟨fun a U g mk q => by obtain ⟨q0, q1, qP, qK, qD⟩ := q; exact ⟨q0, q1, qP, va_K.moved (u := U) (U := U.calling g mk a) (Vm.Alike.refl U.vm) qK, qD⟩, fun U hU hW => ⟨rfl, by rw [hU], by rw [hU]; exact hPc, va_K.moved hW.alike hKc, hDc.weaken (fun _ _ _ _ => trivial)⟩⟩ rfl rfl hl.1 rfl (lv_room (Nat.le_of_ble_eq_true rfl)) dX0_both_8 ⟨(Nat.zero_le _), (Nat.zero_le _)⟩) hS (fun q _ h => hFc q h) hFc (fun r_3 u t H1 locs ht hvm hw hB hz1 hk1 hS => ?_)
  obtain ⟨er, hu⟩ := hw
  subst hu
  subst er
  obtain ⟨hP1, hK1, hD1⟩ := hB
  rw [ht] at hP1
  have hK1 := va_K.moved hvm.symm hK1
  obtain ⟨hP, hD⟩ := va_join (wr := [(h0, .inr (0, [.int a0, .int a1, .int a2, .int a3, .int a4, .int a5, .int a6, .int a7, .int a8, .int a9, .int a10, .int a11]))]) (w1 := []) hP hD [] [0] rfl rfl (by decide) (by decide) hk1 hFc hP1 hD1
  have hK := (hK.sub (tys' := []) [] rfl).app hK1
  generalize H1 = H at hP hS ⊢
  have hP : va_P (dC, dI) vwCl [(h0, .inr (0, [.int a0, .int a1, .int a2, .int a3, .int a4, .int a5, .int a6, .int a7, .int a8, .int a9, .int a10, .int a11]))] H := hP
  have hD : va_D A [(h0, .inr (0, [.int a0, .int a1, .int a2, .int a3, .int a4, .int a5, .int a6, .int a7, .int a8, .int a9, .int a10, .int a11]))] := hD
  have hK : va_K (dC, dI) vwCl [] s := hK
  refine lv_if_ne (tgt := 16) hx hb dX0_both_11 (by decide) (fun c_4 => ?_) (fun c_4 => ?_)
  · refine lv_aload_n hx hb dX0_both_16 rfl (lv_at hl 0 rfl) ?_
    refine lv_iload_n hx hb dX0_both_17 rfl (lv_at hl 1 rfl) ?_
    have hPc := hP.sub (ws' := [(h0, .inr (0, [.int a0, .int a1, .int a2, .int a3, .int a4, .int a5, .int a6, .int a7, .int a8, .int a9, .int a10, .int a11]))]) [0] rfl
    have hDc := hD.sub (ws' := [(h0, .inr (0, [.int a0, .int a1, .int a2, .int a3, .int a4, .int a5, .int a6, .int a7, .int a8, .int a9, .int a10, .int a11]))]) [0] (by decide) rfl
    have hKc := hK.sub (tys' := []) [] rfl
    have hFc := va_free (wc := [(h0, .inr (0, [.int a0, .int a1, .int a2, .int a3, .int a4, .int a5, .int a6, .int a7, .int a8, .int a9, .int a10, .int a11]))]) hD hS hA [0] rfl
    refine va_calli (va_runV (As := [.int p0]) (rest := []) ⟨hx, hb, hml, hown, hts⟩ (ct_X0_exception l dC dI h0 H.size a0 a1 a2 a3 a4 a5 a6 a7 a8 a9 a10 a11 p0) (cwV 1 hts gX0_both_X0_exception rfl rfl rfl (by decide +kernel) ⟨Nat.le_of_ble_eq_true rfl, Nat.le_of_ble_eq_true rfl⟩) ⟨fun a U g mk q => by obtain ⟨q0, q1, qP, qK, qD⟩ := q; exact ⟨q0, q1, qP, va_K.moved (u := U) (U := U.calling g mk a) (Vm.Alike.refl U.vm) qK, qD⟩, va_recv hKc hPc (ci := 0) (q0 := 0) rfl rfl, fun U hU hW => ⟨rfl, by rw [hU], by rw [hU]; exact hPc, va_K.moved hW.alike hKc, hDc.weaken (fun _ _ _ _ => trivial)⟩⟩ rfl rfl hl.1 rfl (lv_room (Nat.le_of_ble_eq_true rfl)) dX0_both_18 ⟨(Nat.zero_le _), (Nat.zero_le _)⟩) hS (fun q _ h => hFc q h) hFc (fun r_5 u t H1 locs ht hvm hw hB hz1 hk1 hS => ?_)
    obtain ⟨er, hu⟩ := hw
    subst hu
    subst er
    obtain ⟨hP1, hK1, hD1⟩ := hB
    rw [ht] at hP1
    have hK1 := va_K.moved hvm.symm hK1
    obtain ⟨hP, hD⟩ := va_join (wr := []) (w1 := [(h0, .inr (0, [.int a0, .int a1, .int a2, .int a3, .int a4, .int a5, .int a6, .int a7, .int a8, .int a9, .int a10, .int a11]))]) hP hD [0] [] rfl rfl (by decide) (by decide) hk1 hFc hP1 hD1
    have hK := (hK.sub (tys' := []) [] rfl).app hK1
    generalize H1 = H at hP hS ⊢
    have hP : va_P (dC, dI) vwCl [(h0, .inr (0, [.int a0, .int a1, .int a2, .int a3, .int a4, .int a5, .int a6, .int a7, .int a8, .int a9, .int a10, .int a11]))] H := hP
    have hD : va_D A [(h0, .inr (0, [.int a0, .int a1, .int a2, .int a3, .int a4, .int a5, .int a6, .int a7, .int a8, .int a9, .int a10, .int a11]))] := hD
    have hK : va_K (dC, dI) vwCl [] s := hK
    refine lv_istore_n (lv' := [(3, .int (fx_X0_exception p0)), (0, .ref h0), (1, .int p0), (2, .int p1)]) hx hb dX0_both_21 rfl hl (by decide) rfl (fun ls hl => ?_)
    refine lv_aload_n hx hb dX0_both_22 rfl (lv_at hl 1 rfl) ?_
    refine lv_iload_n hx hb dX0_both_23 rfl (lv_at hl 3 rfl) ?_
    have hPc := hP.sub (ws' := [(h0, .inr (0, [.int a0, .int a1, .int a2, .int a3, .int a4, .int a5, .int a6, .int a7, .int a8, .int a9, .int a10, .int a11]))]) [0] rfl
    have hDc := hD.sub (ws' := [(h0, .inr (0, [.int a0, .int a1, .int a2, .int a3, .int a4, .int a5, .int a6, .int a7, .int a8, .int a9, .int a10, .int a11]))]) [0] (by decide) rfl
    have hKc := hK.sub (tys' := []) [] rfl
    have hFc := va_free (wc := [(h0, .inr (0, [.int a0, .int a1, .int a2, .int a3, .int a4, .int a5, .int a6, .int a7, .int a8, .int a9, .int a10, .int a11]))]) hD hS hA [0] rfl
    refine va_calli (va_runV (As := [.int p1]) (rest := []) ⟨hx, hb, hml, hown, hts⟩ (ct_X0_exception l dC dI h0 H.size a0 a1 a2 a3 a4 a5 a6 a7 a8 a9 a10 a11 p1) (cwV 1 hts gX0_both_X0_exception rfl rfl rfl (by decide +kernel) ⟨Nat.le_of_ble_eq_true rfl, Nat.le_of_ble_eq_true rfl⟩) ⟨fun a U g mk q => by obtain ⟨q0, q1, qP, qK, qD⟩ := q; exact ⟨q0, q1, qP, va_K.moved (u := U) (U := U.calling g mk a) (Vm.Alike.refl U.vm) qK, qD⟩, va_recv hKc hPc (ci := 0) (q0 := 0) rfl rfl, fun U hU hW => ⟨rfl, by rw [hU], by rw [hU]; exact hPc, va_K.moved hW.alike hKc, hDc.weaken (fun _ _ _ _ => trivial)⟩⟩ rfl rfl hl.1 rfl (lv_room (Nat.le_of_ble_eq_true rfl)) dX0_both_24 ⟨(Nat.zero_le _), (Nat.zero_le _)⟩) hS (fun q _ h => hFc q h) hFc (fun r_6 u t H1 locs ht hvm hw hB hz1 hk1 hS => ?_)
    obtain ⟨er, hu⟩ := hw
    subst hu
    subst er
    obtain ⟨hP1, hK1, hD1⟩ := hB
    rw [ht] at hP1
    have hK1 := va_K.moved hvm.symm hK1
    obtain ⟨hP, hD⟩ := va_join (wr := []) (w1 := [(h0, .inr (0, [.int a0, .int a1, .int a2, .int a3, .int a4, .int a5, .int a6, .int a7, .int a8, .int a9, .int a10, .int a11]))]) hP hD [0] [] rfl rfl (by decide) (by decide) hk1 hFc hP1 hD1
    have hK := (hK.sub (tys' := []) [] rfl).app hK1
    generalize H1 = H at hP hS ⊢
    have hP : va_P (dC, dI) vwCl [(h0, .inr (0, [.int a0, .int a1, .int a2, .int a3, .int a4, .int a5, .int a6, .int a7, .int a8, .int a9, .int a10, .int a11]))] H := hP
    have hD : va_D A [(h0, .inr (0, [.int a0, .int a1, .int a2, .int a3, .int a4, .int a5, .int a6, .int a7, .int a8, .int a9, .int a10, .int a11]))] := hD
    have hK : va_K (dC, dI) vwCl [] s := hK
    refine lv_istore (lv' := [(4, .int (fx_X0_exception p1)), (3, .int (fx_X0_exception p0)), (0, .ref h0), (1, .int p0), (2, .int p1)]) hx hb dX0_both_27 hl (by decide) rfl (fun ls hl => ?_)
    refine lv_iload_n hx hb dX0_both_29 rfl (lv_at hl 1 rfl) ?_
    refine lv_iload hx hb dX0_both_30 (lv_at hl 0 rfl) ?_
    refine lv_icmp_ne (tgt := 41) hx hb dX0_both_32 (by decide) (fun c_7 => ?_) (fun c_7 => ?_)
    · refine lv_iload_n hx hb dX0_both_41 rfl (lv_at hl 1 rfl) ?_
      refine lv_iload hx hb dX0_both_42 (lv_at hl 0 rfl) ?_
      refine lv_icmp_le (tgt := 51) hx hb dX0_both_44 (by decide) (fun c_8 => ?_) (fun c_8 => ?_)
      · refine lv_iload_n hx hb dX0_both_51 rfl (lv_at hl 4 rfl) ?_
        have hP9 := hP.sub (ws' := [(h0, .inr (0, [.int a0, .int a1, .int a2, .int a3, .int a4, .int a5, .int a6, .int a7, .int a8, .int a9, .int a10, .int a11]))]) [0] rfl
        have hD9 := hD.sub (ws' := [(h0, .inr (0, [.int a0, .int a1, .int a2, .int a3, .int a4, .int a5, .int a6, .int a7, .int a8, .int a9, .int a10, .int a11]))]) [0] (by decide) rfl
        have hK9 := hK.sub (tys' := []) [] rfl
        have ef : fx_X0_both p0 p1 = p1 := by unfold fx_X0_both; rw [if_neg c_2, if_neg c_4, if_neg c_7, if_pos c_8]
        exact W.iret (v := p1) hx hb hr (fun t ht hW => ⟨⟨p1, [(h0, .inr (0, [.int a0, .int a1, .int a2, .int a3, .int a4, .int a5, .int a6, .int a7, .int a8, .int a9, .int a10, .int a11]))], rfl, ⟨ef.symm, rfl⟩, by rw [ht]; exact hP9, va_K.moved hW.alike hK9, hD9⟩, hS.F ht⟩) hS.2.2 dX0_both_52
      refine lv_iload_n hx hb dX0_both_47 rfl (lv_at hl 3 rfl) ?_
      refine lv_goto (tgt := 52) hx hb dX0_both_48 (by decide) ?_
      have hP9 := hP.sub (ws' := [(h0, .inr (0, [.int a0, .int a1, .int a2, .int a3, .int a4, .int a5, .int a6, .int a7, .int a8, .int a9, .int a10, .int a11]))]) [0] rfl
      have hD9 := hD.sub (ws' := [(h0, .inr (0, [.int a0, .int a1, .int a2, .int a3, .int a4, .int a5, .int a6, .int a7, .int a8, .int a9, .int a10, .int a11]))]) [0] (by decide) rfl
      have hK9 := hK.sub (tys' := []) [] rfl
      have ef : fx_X0_both p0 p1 = p0 := by unfold fx_X0_both; rw [if_neg c_2, if_neg c_4, if_neg c_7, if_neg c_8]
      exact W.iret (v := p0) hx hb hr (fun t ht hW => ⟨⟨p0, [(h0, .inr (0, [.int a0, .int a1, .int a2, .int a3, .int a4, .int a5, .int a6, .int a7, .int a8, .int a9, .int a10, .int a11]))], rfl, ⟨ef.symm, rfl⟩, by rw [ht]; exact hP9, va_K.moved hW.alike hK9, hD9⟩, hS.F ht⟩) hS.2.2 dX0_both_52
    refine lv_iload_n hx hb dX0_both_35 rfl (lv_at hl 3 rfl) ?_
    refine lv_iload_n hx hb dX0_both_36 rfl (lv_at hl 4 rfl) ?_
    refine va_mmin hx hb (by rw [hml]; exact hl.1.symm) hown (hts (.methodLink RX0 44 Lib.Math.min.name) (by decide +kernel)) (hts (.static Lib.Math.min.name) (by decide +kernel)) (hts (.initialized "java/lang/Math") (by decide +kernel)) (hts _ (List.mem_of_getElem? (i := 4) rfl)) (Nat.le_of_ble_eq_true rfl) (Nat.le_of_ble_eq_true rfl) (Nat.zero_le _) (Nat.zero_le _) dX0_both_37 ?_
    have hP9 := hP.sub (ws' := [(h0, .inr (0, [.int a0, .int a1, .int a2, .int a3, .int a4, .int a5, .int a6, .int a7, .int a8, .int a9, .int a10, .int a11]))]) [0] rfl
    have hD9 := hD.sub (ws' := [(h0, .inr (0, [.int a0, .int a1, .int a2, .int a3, .int a4, .int a5, .int a6, .int a7, .int a8, .int a9, .int a10, .int a11]))]) [0] (by decide) rfl
    have hK9 := hK.sub (tys' := []) [] rfl
    have ef : fx_X0_both p0 p1 = if p1 < p0 then p1 else p0 := by unfold fx_X0_both; rw [if_neg c_2, if_neg c_4, if_pos c_7]
    exact W.iret (v := if p1 < p0 then p1 else p0) hx hb hr (fun t ht hW => ⟨⟨(if p1 < p0 then p1 else p0), [(h0, .inr (0, [.int a0, .int a1, .int a2, .int a3, .int a4, .int a5, .int a6, .int a7, .int a8, .int a9, .int a10, .int a11]))], rfl, ⟨ef.symm, rfl⟩, by rw [ht]; exact hP9, va_K.moved hW.alike hK9, hD9⟩, hS.F ht⟩) hS.2.2 dX0_both_40
  refine lv_iconst (v := (-1)) hx hb dX0_both_14 (by decide) ?_
  have hP9 := hP.sub (ws' := [(h0, .inr (0, [.int a0, .int a1, .int a2, .int a3, .int a4, .int a5, .int a6, .int a7, .int a8, .int a9, .int a10, .int a11]))]) [0] rfl
  have hD9 := hD.sub (ws' := [(h0, .inr (0, [.int a0, .int a1, .int a2, .int a3, .int a4, .int a5, .int a6, .int a7, .int a8, .int a9, .int a10, .int a11]))]) [0] (by decide) rfl
  have hK9 := hK.sub (tys' := []) [] rfl
  have ef : fx_X0_both p0 p1 = (-1) := by unfold fx_X0_both; rw [if_neg c_2, if_pos c_4]
  exact W.iret (v := (-1)) hx hb hr (fun t ht hW => ⟨⟨(-1), [(h0, .inr (0, [.int a0, .int a1, .int a2, .int a3, .int a4, .int a5, .int a6, .int a7, .int a8, .int a9, .int a10, .int a11]))], rfl, ⟨ef.symm, rfl⟩, by rw [ht]; exact hP9, va_K.moved hW.alike hK9, hD9⟩, hS.F ht⟩) hS.2.2 dX0_both_15
set_option maxHeartbeats 4000000 in
set_option maxRecDepth 100000 in
theorem ct_X0_extended (l : Launch) (dC : Nat → ClassId) (dI : Nat → Nat → Nat) (h0 : Nat) (sz : Nat) (a0 a1 a2 a3 a4 a5 a6 a7 a8 a9 a10 a11 p0 : Int32) : Met l yX0_extended wsX0_extended ({ frames := 1, cells := 0, slots := 0, locals := 20 }) (va_Pc [.ref h0, .int p0] (fun U => U.heap.size = sz ∧ va_P (dC, dI) vwCl [(h0, .inr (0, [.int a0, .int a1, .int a2, .int a3, .int a4, .int a5, .int a6, .int a7, .int a8, .int a9, .int a10, .int a11]))] U.heap ∧ va_K (dC, dI) vwCl [] U ∧ va_D (fun _ => True) [(h0, .inr (0, [.int a0, .int a1, .int a2, .int a3, .int a4, .int a5, .int a6, .int a7, .int a8, .int a9, .int a10, .int a11]))])) (va_Qi (fun (r : Int32) (u : va_W) => r = fx_X0_extended a0 a8 p0 ∧ u = [(h0, .inr (0, [.int a0, .int a1, .int a2, .int a3, .int a4, .int a5, .int a6, .int a7, .int a8, .int a9, .int a10, .int a11]))]) (at_W dC dI (va_A [(h0, .inr (0, [.int a0, .int a1, .int a2, .int a3, .int a4, .int a5, .int a6, .int a7, .int a8, .int a9, .int a10, .int a11]))] sz)) (va_A [(h0, .inr (0, [.int a0, .int a1, .int a2, .int a3, .int a4, .int a5, .int a6, .int a7, .int a8, .int a9, .int a10, .int a11]))] sz)) 0 0 (va_A [(h0, .inr (0, [.int a0, .int a1, .int a2, .int a3, .int a4, .int a5, .int a6, .int a7, .int a8, .int a9, .int a10, .int a11]))] sz) := by
  refine Met.ofW (cc := cX0_extended) (maxL := 2) (ret := (some .int)) (by decide) rfl ?_
  intro p e s m args below meth c s₁ B hml hv
  obtain ⟨rfl, hsz, hP, hK, hD0⟩ := hv
  have hx := B.exec
  have hb := B.bytes
  have hr := B.returns
  have hts := atoms_spec (ws := wsX0_extended) B.pre
  have hown : s.vm.findClass RX0 = some m.cls := findClass_of_methodNamed B.named
  have hlocks := B.notSynchronized
  subst hsz
  have hD := hD0.self (sz := s.heap.size)
  generalize hAe : va_A [(h0, .inr (0, [.int a0, .int a1, .int a2, .int a3, .int a4, .int a5, .int a6, .int a7, .int a8, .int a9, .int a10, .int a11]))] s.heap.size = A at hD ⊢
  have hA : ∀ q : Nat, s.heap.size ≤ q → A q := fun q h => by rw [← hAe]; exact Or.inr h
  have hS : va_S A s.heap s.heap [] := va_S.rf
  have hP : va_P (dC, dI) vwCl [(h0, .inr (0, [.int a0, .int a1, .int a2, .int a3, .int a4, .int a5, .int a6, .int a7, .int a8, .int a9, .int a10, .int a11]))] s.heap := hP
  have hl := lv_entry ([.ref h0, .int p0]) (n := 2) (Nat.le_of_ble_eq_true rfl)
  rw [lg_entry_eq]
  generalize (lg_sl ([.ref h0, .int p0]) ++ List.replicate (2 - (lg_sl ([.ref h0, .int p0])).length) Slot.unset).toArray = ls at hl ⊢
  have hl : lv_has ls 2 [(0, .ref h0), (1, .int p0)] := hl
  refine lv_iload_n hx hb dX0_extended_0 rfl (lv_at hl 1 rfl) ?_
  have hPc := hP.sub (ws' := []) [] rfl
  have hDc := hD.sub (ws' := []) [] (by decide) rfl
  have hKc := hK.sub (tys' := []) [] rfl
  have hFc := va_free (wc := []) hD hS hA [] rfl
  refine va_calli (va_runS (As := [.int p0]) (rest := []) ⟨hx, hb, hml, hown, hts⟩ (ct_X0_isStatus l dC dI s.heap.size p0) (va_cwS 1 hts gX0_extended_X0_isStatus rfl rfl rfl (by decide +kernel) ⟨Nat.le_of_ble_eq_true rfl, Nat.le_of_ble_eq_true rfl⟩) ⟨fun a U g mk q => by obtain ⟨q0, q1, qP, qK, qD⟩ := q; exact ⟨q0, q1, qP, va_K.moved (u := U) (U := U.calling g mk a) (Vm.Alike.refl U.vm) qK, qD⟩, fun U hU hW => ⟨rfl, by rw [hU], by rw [hU]; exact hPc, va_K.moved hW.alike hKc, hDc.weaken (fun _ _ _ _ => trivial)⟩⟩ rfl rfl hl.1 rfl (lv_room (Nat.le_of_ble_eq_true rfl)) dX0_extended_1 ⟨(Nat.zero_le _), (Nat.zero_le _)⟩) hS (fun q _ h => hFc q h) hFc (fun r_1 u t H1 locs ht hvm hw hB hz1 hk1 hS => ?_)
  obtain ⟨er, hu⟩ := hw
  subst hu
  subst er
  obtain ⟨hP1, hK1, hD1⟩ := hB
  rw [ht] at hP1
  have hK1 := va_K.moved hvm.symm hK1
  obtain ⟨hP, hD⟩ := va_join (wr := [(h0, .inr (0, [.int a0, .int a1, .int a2, .int a3, .int a4, .int a5, .int a6, .int a7, .int a8, .int a9, .int a10, .int a11]))]) (w1 := []) hP hD [] [0] rfl rfl (by decide) (by decide) hk1 hFc hP1 hD1
  have hK := (hK.sub (tys' := []) [] rfl).app hK1
  generalize H1 = H at hP hS ⊢
  have hP : va_P (dC, dI) vwCl [(h0, .inr (0, [.int a0, .int a1, .int a2, .int a3, .int a4, .int a5, .int a6, .int a7, .int a8, .int a9, .int a10, .int a11]))] H := hP
  have hD : va_D A [(h0, .inr (0, [.int a0, .int a1, .int a2, .int a3, .int a4, .int a5, .int a6, .int a7, .int a8, .int a9, .int a10, .int a11]))] := hD
  have hK : va_K (dC, dI) vwCl [] s := hK
  refine lv_if_ne (tgt := 9) hx hb dX0_extended_4 (by decide) (fun c_2 => ?_) (fun c_2 => ?_)
  · refine lv_bipush (v := 100) hx hb dX0_extended_9 (by decide) ?_
    refine lv_iload_n hx hb dX0_extended_11 rfl (lv_at hl 1 rfl) ?_
    refine lv_imul hx hb dX0_extended_12 ?_
    refine lv_bipush (v := 10) hx hb dX0_extended_13 (by decide) ?_
    refine lv_aload_n hx hb dX0_extended_15 rfl (lv_at hl 0 rfl) ?_
    refine va_get (D := (dC, dI)) (ci := 0) (v := .int a0) (C := RX0) (T := TX0) (N := 12) hx hb hts (fun _ h => List.mem_cons_of_mem _ (List.mem_append_right _ h)) hown hK hP 0 rfl rfl 0 (by decide) (hts (.fieldLink RX0 53 "FileStatus" "organisation" "I") (by decide +kernel)) (fun _ h9 => h9) rfl dX0_extended_16 ?_
    refine lv_imul hx hb dX0_extended_19 ?_
    refine lv_iadd hx hb dX0_extended_20 ?_
    refine lv_aload_n hx hb dX0_extended_21 rfl (lv_at hl 0 rfl) ?_
    refine va_get (D := (dC, dI)) (ci := 0) (v := .int a8) (C := RX0) (T := TX0) (N := 12) hx hb hts (fun _ h => List.mem_cons_of_mem _ (List.mem_append_right _ h)) hown hK hP 0 rfl rfl 8 (by decide) (hts (.fieldLink RX0 32 "FileStatus" "latestAct" "I") (by decide +kernel)) (fun _ h9 => h9) rfl dX0_extended_22 ?_
    refine lv_iadd hx hb dX0_extended_25 ?_
    have hP9 := hP.sub (ws' := [(h0, .inr (0, [.int a0, .int a1, .int a2, .int a3, .int a4, .int a5, .int a6, .int a7, .int a8, .int a9, .int a10, .int a11]))]) [0] rfl
    have hD9 := hD.sub (ws' := [(h0, .inr (0, [.int a0, .int a1, .int a2, .int a3, .int a4, .int a5, .int a6, .int a7, .int a8, .int a9, .int a10, .int a11]))]) [0] (by decide) rfl
    have hK9 := hK.sub (tys' := []) [] rfl
    have ef : fx_X0_extended a0 a8 p0 = ((100 * p0) + (10 * a0)) + a8 := by unfold fx_X0_extended; rw [if_neg c_2]
    exact W.iret (v := ((100 * p0) + (10 * a0)) + a8) hx hb hr (fun t ht hW => ⟨⟨(((100 * p0) + (10 * a0)) + a8), [(h0, .inr (0, [.int a0, .int a1, .int a2, .int a3, .int a4, .int a5, .int a6, .int a7, .int a8, .int a9, .int a10, .int a11]))], rfl, ⟨ef.symm, rfl⟩, by rw [ht]; exact hP9, va_K.moved hW.alike hK9, hD9⟩, hS.F ht⟩) hS.2.2 dX0_extended_26
  refine lv_iconst (v := (-1)) hx hb dX0_extended_7 (by decide) ?_
  have hP9 := hP.sub (ws' := [(h0, .inr (0, [.int a0, .int a1, .int a2, .int a3, .int a4, .int a5, .int a6, .int a7, .int a8, .int a9, .int a10, .int a11]))]) [0] rfl
  have hD9 := hD.sub (ws' := [(h0, .inr (0, [.int a0, .int a1, .int a2, .int a3, .int a4, .int a5, .int a6, .int a7, .int a8, .int a9, .int a10, .int a11]))]) [0] (by decide) rfl
  have hK9 := hK.sub (tys' := []) [] rfl
  have ef : fx_X0_extended a0 a8 p0 = (-1) := by unfold fx_X0_extended; rw [if_pos c_2]
  exact W.iret (v := (-1)) hx hb hr (fun t ht hW => ⟨⟨(-1), [(h0, .inr (0, [.int a0, .int a1, .int a2, .int a3, .int a4, .int a5, .int a6, .int a7, .int a8, .int a9, .int a10, .int a11]))], rfl, ⟨ef.symm, rfl⟩, by rw [ht]; exact hP9, va_K.moved hW.alike hK9, hD9⟩, hS.F ht⟩) hS.2.2 dX0_extended_8
set_option maxHeartbeats 4000000 in
set_option maxRecDepth 100000 in
theorem ct_X0_area (l : Launch) (dC : Nat → ClassId) (dI : Nat → Nat → Nat) (h0 : Nat) (sz : Nat) (a0 a1 a2 a3 a4 a5 a6 a7 a8 a9 a10 a11 p0 : Int32) : Met l yX0_area wsX0_area ({ frames := 1, cells := 0, slots := 0, locals := 20 }) (va_Pc [.ref h0, .int p0] (fun U => U.heap.size = sz ∧ va_P (dC, dI) vwCl [(h0, .inr (0, [.int a0, .int a1, .int a2, .int a3, .int a4, .int a5, .int a6, .int a7, .int a8, .int a9, .int a10, .int a11]))] U.heap ∧ va_K (dC, dI) vwCl [] U ∧ va_D (fun _ => True) [(h0, .inr (0, [.int a0, .int a1, .int a2, .int a3, .int a4, .int a5, .int a6, .int a7, .int a8, .int a9, .int a10, .int a11]))])) (va_Qi (fun (r : Int32) (u : va_W) => r = fx_X0_area p0 ∧ u = [(h0, .inr (0, [.int a0, .int a1, .int a2, .int a3, .int a4, .int a5, .int a6, .int a7, .int a8, .int a9, .int a10, .int a11]))]) (at_W dC dI (va_A [(h0, .inr (0, [.int a0, .int a1, .int a2, .int a3, .int a4, .int a5, .int a6, .int a7, .int a8, .int a9, .int a10, .int a11]))] sz)) (va_A [(h0, .inr (0, [.int a0, .int a1, .int a2, .int a3, .int a4, .int a5, .int a6, .int a7, .int a8, .int a9, .int a10, .int a11]))] sz)) 0 0 (va_A [(h0, .inr (0, [.int a0, .int a1, .int a2, .int a3, .int a4, .int a5, .int a6, .int a7, .int a8, .int a9, .int a10, .int a11]))] sz) := by
  refine Met.ofW (cc := cX0_area) (maxL := 2) (ret := (some .int)) (by decide) rfl ?_
  intro p e s m args below meth c s₁ B hml hv
  obtain ⟨rfl, hsz, hP, hK, hD0⟩ := hv
  have hx := B.exec
  have hb := B.bytes
  have hr := B.returns
  have hts := atoms_spec (ws := wsX0_area) B.pre
  have hown : s.vm.findClass RX0 = some m.cls := findClass_of_methodNamed B.named
  have hlocks := B.notSynchronized
  subst hsz
  have hD := hD0.self (sz := s.heap.size)
  generalize hAe : va_A [(h0, .inr (0, [.int a0, .int a1, .int a2, .int a3, .int a4, .int a5, .int a6, .int a7, .int a8, .int a9, .int a10, .int a11]))] s.heap.size = A at hD ⊢
  have hA : ∀ q : Nat, s.heap.size ≤ q → A q := fun q h => by rw [← hAe]; exact Or.inr h
  have hS : va_S A s.heap s.heap [] := va_S.rf
  have hP : va_P (dC, dI) vwCl [(h0, .inr (0, [.int a0, .int a1, .int a2, .int a3, .int a4, .int a5, .int a6, .int a7, .int a8, .int a9, .int a10, .int a11]))] s.heap := hP
  have hl := lv_entry ([.ref h0, .int p0]) (n := 2) (Nat.le_of_ble_eq_true rfl)
  rw [lg_entry_eq]
  generalize (lg_sl ([.ref h0, .int p0]) ++ List.replicate (2 - (lg_sl ([.ref h0, .int p0])).length) Slot.unset).toArray = ls at hl ⊢
  have hl : lv_has ls 2 [(0, .ref h0), (1, .int p0)] := hl
  refine lv_iload_n hx hb dX0_area_0 rfl (lv_at hl 1 rfl) ?_
  have hPc := hP.sub (ws' := []) [] rfl
  have hDc := hD.sub (ws' := []) [] (by decide) rfl
  have hKc := hK.sub (tys' := []) [] rfl
  have hFc := va_free (wc := []) hD hS hA [] rfl
  refine va_calli (va_runS (As := [.int p0]) (rest := []) ⟨hx, hb, hml, hown, hts⟩ (ct_X0_isStatus l dC dI s.heap.size p0) (va_cwS 1 hts gX0_area_X0_isStatus rfl rfl rfl (by decide +kernel) ⟨Nat.le_of_ble_eq_true rfl, Nat.le_of_ble_eq_true rfl⟩) ⟨fun a U g mk q => by obtain ⟨q0, q1, qP, qK, qD⟩ := q; exact ⟨q0, q1, qP, va_K.moved (u := U) (U := U.calling g mk a) (Vm.Alike.refl U.vm) qK, qD⟩, fun U hU hW => ⟨rfl, by rw [hU], by rw [hU]; exact hPc, va_K.moved hW.alike hKc, hDc.weaken (fun _ _ _ _ => trivial)⟩⟩ rfl rfl hl.1 rfl (lv_room (Nat.le_of_ble_eq_true rfl)) dX0_area_1 ⟨(Nat.zero_le _), (Nat.zero_le _)⟩) hS (fun q _ h => hFc q h) hFc (fun r_1 u t H1 locs ht hvm hw hB hz1 hk1 hS => ?_)
  obtain ⟨er, hu⟩ := hw
  subst hu
  subst er
  obtain ⟨hP1, hK1, hD1⟩ := hB
  rw [ht] at hP1
  have hK1 := va_K.moved hvm.symm hK1
  obtain ⟨hP, hD⟩ := va_join (wr := [(h0, .inr (0, [.int a0, .int a1, .int a2, .int a3, .int a4, .int a5, .int a6, .int a7, .int a8, .int a9, .int a10, .int a11]))]) (w1 := []) hP hD [] [0] rfl rfl (by decide) (by decide) hk1 hFc hP1 hD1
  have hK := (hK.sub (tys' := []) [] rfl).app hK1
  generalize H1 = H at hP hS ⊢
  have hP : va_P (dC, dI) vwCl [(h0, .inr (0, [.int a0, .int a1, .int a2, .int a3, .int a4, .int a5, .int a6, .int a7, .int a8, .int a9, .int a10, .int a11]))] H := hP
  have hD : va_D A [(h0, .inr (0, [.int a0, .int a1, .int a2, .int a3, .int a4, .int a5, .int a6, .int a7, .int a8, .int a9, .int a10, .int a11]))] := hD
  have hK : va_K (dC, dI) vwCl [] s := hK
  refine lv_if_ne (tgt := 9) hx hb dX0_area_4 (by decide) (fun c_2 => ?_) (fun c_2 => ?_)
  · refine lv_iload_n hx hb dX0_area_9 rfl (lv_at hl 1 rfl) ?_
    refine lv_if_eq (tgt := 18) hx hb dX0_area_10 (by decide) (fun c_3 => ?_) (fun c_3 => ?_)
    · refine lv_iconst (v := 1) hx hb dX0_area_18 (by decide) ?_
      have hP9 := hP.sub (ws' := [(h0, .inr (0, [.int a0, .int a1, .int a2, .int a3, .int a4, .int a5, .int a6, .int a7, .int a8, .int a9, .int a10, .int a11]))]) [0] rfl
      have hD9 := hD.sub (ws' := [(h0, .inr (0, [.int a0, .int a1, .int a2, .int a3, .int a4, .int a5, .int a6, .int a7, .int a8, .int a9, .int a10, .int a11]))]) [0] (by decide) rfl
      have hK9 := hK.sub (tys' := []) [] rfl
      have ef : fx_X0_area p0 = 1 := by unfold fx_X0_area; rw [if_neg c_2, if_pos c_3]
      exact W.iret (v := 1) hx hb hr (fun t ht hW => ⟨⟨1, [(h0, .inr (0, [.int a0, .int a1, .int a2, .int a3, .int a4, .int a5, .int a6, .int a7, .int a8, .int a9, .int a10, .int a11]))], rfl, ⟨ef.symm, rfl⟩, by rw [ht]; exact hP9, va_K.moved hW.alike hK9, hD9⟩, hS.F ht⟩) hS.2.2 dX0_area_19
    refine lv_iload_n hx hb dX0_area_13 rfl (lv_at hl 1 rfl) ?_
    refine lv_iconst (v := 2) hx hb dX0_area_14 (by decide) ?_
    refine lv_icmp_ne (tgt := 20) hx hb dX0_area_15 (by decide) (fun c_4 => ?_) (fun c_4 => ?_)
    · refine lv_iload_n hx hb dX0_area_20 rfl (lv_at hl 1 rfl) ?_
      refine lv_iconst (v := 4) hx hb dX0_area_21 (by decide) ?_
      refine lv_icmp_ne (tgt := 29) hx hb dX0_area_22 (by decide) (fun c_5 => ?_) (fun c_5 => ?_)
      · refine lv_iconst (v := 0) hx hb dX0_area_29 (by decide) ?_
        have hP9 := hP.sub (ws' := [(h0, .inr (0, [.int a0, .int a1, .int a2, .int a3, .int a4, .int a5, .int a6, .int a7, .int a8, .int a9, .int a10, .int a11]))]) [0] rfl
        have hD9 := hD.sub (ws' := [(h0, .inr (0, [.int a0, .int a1, .int a2, .int a3, .int a4, .int a5, .int a6, .int a7, .int a8, .int a9, .int a10, .int a11]))]) [0] (by decide) rfl
        have hK9 := hK.sub (tys' := []) [] rfl
        have ef : fx_X0_area p0 = 0 := by unfold fx_X0_area; rw [if_neg c_2, if_neg c_3, if_neg c_4, if_neg c_5]
        exact W.iret (v := 0) hx hb hr (fun t ht hW => ⟨⟨0, [(h0, .inr (0, [.int a0, .int a1, .int a2, .int a3, .int a4, .int a5, .int a6, .int a7, .int a8, .int a9, .int a10, .int a11]))], rfl, ⟨ef.symm, rfl⟩, by rw [ht]; exact hP9, va_K.moved hW.alike hK9, hD9⟩, hS.F ht⟩) hS.2.2 dX0_area_30
      refine lv_iconst (v := 2) hx hb dX0_area_25 (by decide) ?_
      refine lv_goto (tgt := 30) hx hb dX0_area_26 (by decide) ?_
      have hP9 := hP.sub (ws' := [(h0, .inr (0, [.int a0, .int a1, .int a2, .int a3, .int a4, .int a5, .int a6, .int a7, .int a8, .int a9, .int a10, .int a11]))]) [0] rfl
      have hD9 := hD.sub (ws' := [(h0, .inr (0, [.int a0, .int a1, .int a2, .int a3, .int a4, .int a5, .int a6, .int a7, .int a8, .int a9, .int a10, .int a11]))]) [0] (by decide) rfl
      have hK9 := hK.sub (tys' := []) [] rfl
      have ef : fx_X0_area p0 = 2 := by unfold fx_X0_area; rw [if_neg c_2, if_neg c_3, if_neg c_4, if_pos c_5]
      exact W.iret (v := 2) hx hb hr (fun t ht hW => ⟨⟨2, [(h0, .inr (0, [.int a0, .int a1, .int a2, .int a3, .int a4, .int a5, .int a6, .int a7, .int a8, .int a9, .int a10, .int a11]))], rfl, ⟨ef.symm, rfl⟩, by rw [ht]; exact hP9, va_K.moved hW.alike hK9, hD9⟩, hS.F ht⟩) hS.2.2 dX0_area_30
    refine lv_iconst (v := 1) hx hb dX0_area_18 (by decide) ?_
    have hP9 := hP.sub (ws' := [(h0, .inr (0, [.int a0, .int a1, .int a2, .int a3, .int a4, .int a5, .int a6, .int a7, .int a8, .int a9, .int a10, .int a11]))]) [0] rfl
    have hD9 := hD.sub (ws' := [(h0, .inr (0, [.int a0, .int a1, .int a2, .int a3, .int a4, .int a5, .int a6, .int a7, .int a8, .int a9, .int a10, .int a11]))]) [0] (by decide) rfl
    have hK9 := hK.sub (tys' := []) [] rfl
    have ef : fx_X0_area p0 = 1 := by unfold fx_X0_area; rw [if_neg c_2, if_neg c_3, if_pos c_4]
    exact W.iret (v := 1) hx hb hr (fun t ht hW => ⟨⟨1, [(h0, .inr (0, [.int a0, .int a1, .int a2, .int a3, .int a4, .int a5, .int a6, .int a7, .int a8, .int a9, .int a10, .int a11]))], rfl, ⟨ef.symm, rfl⟩, by rw [ht]; exact hP9, va_K.moved hW.alike hK9, hD9⟩, hS.F ht⟩) hS.2.2 dX0_area_19
  refine lv_iconst (v := (-1)) hx hb dX0_area_7 (by decide) ?_
  have hP9 := hP.sub (ws' := [(h0, .inr (0, [.int a0, .int a1, .int a2, .int a3, .int a4, .int a5, .int a6, .int a7, .int a8, .int a9, .int a10, .int a11]))]) [0] rfl
  have hD9 := hD.sub (ws' := [(h0, .inr (0, [.int a0, .int a1, .int a2, .int a3, .int a4, .int a5, .int a6, .int a7, .int a8, .int a9, .int a10, .int a11]))]) [0] (by decide) rfl
  have hK9 := hK.sub (tys' := []) [] rfl
  have ef : fx_X0_area p0 = (-1) := by unfold fx_X0_area; rw [if_pos c_2]
  exact W.iret (v := (-1)) hx hb hr (fun t ht hW => ⟨⟨(-1), [(h0, .inr (0, [.int a0, .int a1, .int a2, .int a3, .int a4, .int a5, .int a6, .int a7, .int a8, .int a9, .int a10, .int a11]))], rfl, ⟨ef.symm, rfl⟩, by rw [ht]; exact hP9, va_K.moved hW.alike hK9, hD9⟩, hS.F ht⟩) hS.2.2 dX0_area_8
set_option maxHeartbeats 4000000 in
set_option maxRecDepth 100000 in
theorem ct_X0_statusOfOpening (l : Launch) (dC : Nat → ClassId) (dI : Nat → Nat → Nat) (h0 : Nat) (sz : Nat) (a0 a1 a2 a3 a4 a5 a6 a7 a8 a9 a10 a11 p0 : Int32) : Met l yX0_statusOfOpening wsX0_statusOfOpening ({ frames := 1, cells := 0, slots := 0, locals := 20 }) (va_Pc [.ref h0, .int p0] (fun U => U.heap.size = sz ∧ va_P (dC, dI) vwCl [(h0, .inr (0, [.int a0, .int a1, .int a2, .int a3, .int a4, .int a5, .int a6, .int a7, .int a8, .int a9, .int a10, .int a11]))] U.heap ∧ va_K (dC, dI) vwCl [] U ∧ va_D (fun _ => True) [(h0, .inr (0, [.int a0, .int a1, .int a2, .int a3, .int a4, .int a5, .int a6, .int a7, .int a8, .int a9, .int a10, .int a11]))])) (va_Qi (fun (r : Int32) (u : va_W) => r = fx_X0_statusOfOpening a1 a2 a3 p0 ∧ u = [(h0, .inr (0, [.int a0, .int a1, .int a2, .int a3, .int a4, .int a5, .int a6, .int a7, .int a8, .int a9, .int a10, .int a11]))]) (at_W dC dI (va_A [(h0, .inr (0, [.int a0, .int a1, .int a2, .int a3, .int a4, .int a5, .int a6, .int a7, .int a8, .int a9, .int a10, .int a11]))] sz)) (va_A [(h0, .inr (0, [.int a0, .int a1, .int a2, .int a3, .int a4, .int a5, .int a6, .int a7, .int a8, .int a9, .int a10, .int a11]))] sz)) 0 0 (va_A [(h0, .inr (0, [.int a0, .int a1, .int a2, .int a3, .int a4, .int a5, .int a6, .int a7, .int a8, .int a9, .int a10, .int a11]))] sz) := by
  refine Met.ofW (cc := cX0_statusOfOpening) (maxL := 2) (ret := (some .int)) (by decide) rfl ?_
  intro p e s m args below meth c s₁ B hml hv
  obtain ⟨rfl, hsz, hP, hK, hD0⟩ := hv
  have hx := B.exec
  have hb := B.bytes
  have hr := B.returns
  have hts := atoms_spec (ws := wsX0_statusOfOpening) B.pre
  have hown : s.vm.findClass RX0 = some m.cls := findClass_of_methodNamed B.named
  have hlocks := B.notSynchronized
  subst hsz
  have hD := hD0.self (sz := s.heap.size)
  generalize hAe : va_A [(h0, .inr (0, [.int a0, .int a1, .int a2, .int a3, .int a4, .int a5, .int a6, .int a7, .int a8, .int a9, .int a10, .int a11]))] s.heap.size = A at hD ⊢
  have hA : ∀ q : Nat, s.heap.size ≤ q → A q := fun q h => by rw [← hAe]; exact Or.inr h
  have hS : va_S A s.heap s.heap [] := va_S.rf
  have hP : va_P (dC, dI) vwCl [(h0, .inr (0, [.int a0, .int a1, .int a2, .int a3, .int a4, .int a5, .int a6, .int a7, .int a8, .int a9, .int a10, .int a11]))] s.heap := hP
  have hl := lv_entry ([.ref h0, .int p0]) (n := 2) (Nat.le_of_ble_eq_true rfl)
  rw [lg_entry_eq]
  generalize (lg_sl ([.ref h0, .int p0]) ++ List.replicate (2 - (lg_sl ([.ref h0, .int p0])).length) Slot.unset).toArray = ls at hl ⊢
  have hl : lv_has ls 2 [(0, .ref h0), (1, .int p0)] := hl
  refine lv_aload_n hx hb dX0_statusOfOpening_0 rfl (lv_at hl 0 rfl) ?_
  refine va_get (D := (dC, dI)) (ci := 0) (v := .int a2) (C := RX0) (T := TX0) (N := 12) hx hb hts (fun _ h => List.mem_cons_of_mem _ (List.mem_append_right _ h)) hown hK hP 0 rfl rfl 2 (by decide) (hts (.fieldLink RX0 13 "FileStatus" "isOpen" "Z") (by decide +kernel)) (fun _ h9 => h9) rfl dX0_statusOfOpening_1 ?_
  refine lv_if_eq (tgt := 10) hx hb dX0_statusOfOpening_4 (by decide) (fun c_1 => ?_) (fun c_1 => ?_)
  · refine lv_iload_n hx hb dX0_statusOfOpening_10 rfl (lv_at hl 1 rfl) ?_
    by_cases c_2 : p0 = 0
    · refine lv_tableIn (off := 41) (tgt := 52) hx hb dX0_statusOfOpening_11 (by rw [c_2]; decide) (by rw [c_2]; decide) (by rw [c_2]; rfl) (by decide) ?_
      refine lv_iconst (v := 0) hx hb dX0_statusOfOpening_52 (by decide) ?_
      have hP9 := hP.sub (ws' := [(h0, .inr (0, [.int a0, .int a1, .int a2, .int a3, .int a4, .int a5, .int a6, .int a7, .int a8, .int a9, .int a10, .int a11]))]) [0] rfl
      have hD9 := hD.sub (ws' := [(h0, .inr (0, [.int a0, .int a1, .int a2, .int a3, .int a4, .int a5, .int a6, .int a7, .int a8, .int a9, .int a10, .int a11]))]) [0] (by decide) rfl
      have hK9 := hK.sub (tys' := []) [] rfl
      have ef : fx_X0_statusOfOpening a1 a2 a3 p0 = 0 := by unfold fx_X0_statusOfOpening; rw [if_pos c_1, if_pos c_2]
      exact W.iret (v := 0) hx hb hr (fun t ht hW => ⟨⟨0, [(h0, .inr (0, [.int a0, .int a1, .int a2, .int a3, .int a4, .int a5, .int a6, .int a7, .int a8, .int a9, .int a10, .int a11]))], rfl, ⟨ef.symm, rfl⟩, by rw [ht]; exact hP9, va_K.moved hW.alike hK9, hD9⟩, hS.F ht⟩) hS.2.2 dX0_statusOfOpening_53
    by_cases c_3 : p0 = 1
    · refine lv_tableIn (off := 43) (tgt := 54) hx hb dX0_statusOfOpening_11 (by rw [c_3]; decide) (by rw [c_3]; decide) (by rw [c_3]; rfl) (by decide) ?_
      refine lv_aload_n hx hb dX0_statusOfOpening_54 rfl (lv_at hl 0 rfl) ?_
      have hPc := hP.sub (ws' := [(h0, .inr (0, [.int a0, .int a1, .int a2, .int a3, .int a4, .int a5, .int a6, .int a7, .int a8, .int a9, .int a10, .int a11]))]) [0] rfl
      have hDc := hD.sub (ws' := [(h0, .inr (0, [.int a0, .int a1, .int a2, .int a3, .int a4, .int a5, .int a6, .int a7, .int a8, .int a9, .int a10, .int a11]))]) [0] (by decide) rfl
      have hKc := hK.sub (tys' := []) [] rfl
      have hFc := va_free (wc := [(h0, .inr (0, [.int a0, .int a1, .int a2, .int a3, .int a4, .int a5, .int a6, .int a7, .int a8, .int a9, .int a10, .int a11]))]) hD hS hA [0] rfl
      refine va_calli (va_runV (As := []) (rest := []) ⟨hx, hb, hml, hown, hts⟩ (ct_X0_statusOfMissingFile l dC dI h0 s.heap.size a0 a1 a2 a3 a4 a5 a6 a7 a8 a9 a10 a11) (cwV 0 hts gX0_statusOfOpening_X0_statusOfMissingFile rfl rfl rfl (by decide +kernel) ⟨Nat.le_of_ble_eq_true rfl, Nat.le_of_ble_eq_true rfl⟩) ⟨fun a U g mk q => by obtain ⟨q0, q1, qP, qK, qD⟩ := q; exact ⟨q0, q1, qP, va_K.moved (u := U) (U := U.calling g mk a) (Vm.Alike.refl U.vm) qK, qD⟩, va_recv hKc hPc (ci := 0) (q0 := 0) rfl rfl, fun U hU hW => ⟨rfl, by rw [hU], by rw [hU]; exact hPc, va_K.moved hW.alike hKc, hDc.weaken (fun _ _ _ _ => trivial)⟩⟩ rfl rfl hl.1 rfl (lv_room (Nat.le_of_ble_eq_true rfl)) dX0_statusOfOpening_55 ⟨(Nat.zero_le _), (Nat.zero_le _)⟩) hS (fun q _ h => hFc q h) hFc (fun r_4 u t H1 locs ht hvm hw hB hz1 hk1 hS => ?_)
      obtain ⟨er, hu⟩ := hw
      subst hu
      subst er
      obtain ⟨hP1, hK1, hD1⟩ := hB
      rw [ht] at hP1
      have hK1 := va_K.moved hvm.symm hK1
      obtain ⟨hP, hD⟩ := va_join (wr := []) (w1 := [(h0, .inr (0, [.int a0, .int a1, .int a2, .int a3, .int a4, .int a5, .int a6, .int a7, .int a8, .int a9, .int a10, .int a11]))]) hP hD [0] [] rfl rfl (by decide) (by decide) hk1 hFc hP1 hD1
      have hK := (hK.sub (tys' := []) [] rfl).app hK1
      generalize H1 = H at hP hS ⊢
      have hP : va_P (dC, dI) vwCl [(h0, .inr (0, [.int a0, .int a1, .int a2, .int a3, .int a4, .int a5, .int a6, .int a7, .int a8, .int a9, .int a10, .int a11]))] H := hP
      have hD : va_D A [(h0, .inr (0, [.int a0, .int a1, .int a2, .int a3, .int a4, .int a5, .int a6, .int a7, .int a8, .int a9, .int a10, .int a11]))] := hD
      have hK : va_K (dC, dI) vwCl [] s := hK
      have hP9 := hP.sub (ws' := [(h0, .inr (0, [.int a0, .int a1, .int a2, .int a3, .int a4, .int a5, .int a6, .int a7, .int a8, .int a9, .int a10, .int a11]))]) [0] rfl
      have hD9 := hD.sub (ws' := [(h0, .inr (0, [.int a0, .int a1, .int a2, .int a3, .int a4, .int a5, .int a6, .int a7, .int a8, .int a9, .int a10, .int a11]))]) [0] (by decide) rfl
      have hK9 := hK.sub (tys' := []) [] rfl
      have ef : fx_X0_statusOfOpening a1 a2 a3 p0 = fx_X0_statusOfMissingFile a1 a3 := by unfold fx_X0_statusOfOpening; rw [if_pos c_1, if_neg c_2, if_pos c_3]
      exact W.iret (v := fx_X0_statusOfMissingFile a1 a3) hx hb hr (fun t ht hW => ⟨⟨(fx_X0_statusOfMissingFile a1 a3), [(h0, .inr (0, [.int a0, .int a1, .int a2, .int a3, .int a4, .int a5, .int a6, .int a7, .int a8, .int a9, .int a10, .int a11]))], rfl, ⟨ef.symm, rfl⟩, by rw [ht]; exact hP9, va_K.moved hW.alike hK9, hD9⟩, hS.F ht⟩) hS.2.2 dX0_statusOfOpening_58
    by_cases c_5 : p0 = 2
    · refine lv_tableIn (off := 48) (tgt := 59) hx hb dX0_statusOfOpening_11 (by rw [c_5]; decide) (by rw [c_5]; decide) (by rw [c_5]; rfl) (by decide) ?_
      refine lv_bipush (v := 37) hx hb dX0_statusOfOpening_59 (by decide) ?_
      have hP9 := hP.sub (ws' := [(h0, .inr (0, [.int a0, .int a1, .int a2, .int a3, .int a4, .int a5, .int a6, .int a7, .int a8, .int a9, .int a10, .int a11]))]) [0] rfl
      have hD9 := hD.sub (ws' := [(h0, .inr (0, [.int a0, .int a1, .int a2, .int a3, .int a4, .int a5, .int a6, .int a7, .int a8, .int a9, .int a10, .int a11]))]) [0] (by decide) rfl
      have hK9 := hK.sub (tys' := []) [] rfl
      have ef : fx_X0_statusOfOpening a1 a2 a3 p0 = 37 := by unfold fx_X0_statusOfOpening; rw [if_pos c_1, if_neg c_2, if_neg c_3, if_pos c_5]
      exact W.iret (v := 37) hx hb hr (fun t ht hW => ⟨⟨37, [(h0, .inr (0, [.int a0, .int a1, .int a2, .int a3, .int a4, .int a5, .int a6, .int a7, .int a8, .int a9, .int a10, .int a11]))], rfl, ⟨ef.symm, rfl⟩, by rw [ht]; exact hP9, va_K.moved hW.alike hK9, hD9⟩, hS.F ht⟩) hS.2.2 dX0_statusOfOpening_61
    by_cases c_6 : p0 = 3
    · refine lv_tableIn (off := 51) (tgt := 62) hx hb dX0_statusOfOpening_11 (by rw [c_6]; decide) (by rw [c_6]; decide) (by rw [c_6]; rfl) (by decide) ?_
      refine lv_bipush (v := 39) hx hb dX0_statusOfOpening_62 (by decide) ?_
      have hP9 := hP.sub (ws' := [(h0, .inr (0, [.int a0, .int a1, .int a2, .int a3, .int a4, .int a5, .int a6, .int a7, .int a8, .int a9, .int a10, .int a11]))]) [0] rfl
      have hD9 := hD.sub (ws' := [(h0, .inr (0, [.int a0, .int a1, .int a2, .int a3, .int a4, .int a5, .int a6, .int a7, .int a8, .int a9, .int a10, .int a11]))]) [0] (by decide) rfl
      have hK9 := hK.sub (tys' := []) [] rfl
      have ef : fx_X0_statusOfOpening a1 a2 a3 p0 = 39 := by unfold fx_X0_statusOfOpening; rw [if_pos c_1, if_neg c_2, if_neg c_3, if_neg c_5, if_pos c_6]
      exact W.iret (v := 39) hx hb hr (fun t ht hW => ⟨⟨39, [(h0, .inr (0, [.int a0, .int a1, .int a2, .int a3, .int a4, .int a5, .int a6, .int a7, .int a8, .int a9, .int a10, .int a11]))], rfl, ⟨ef.symm, rfl⟩, by rw [ht]; exact hP9, va_K.moved hW.alike hK9, hD9⟩, hS.F ht⟩) hS.2.2 dX0_statusOfOpening_64
    by_cases c_7 : p0 = 4
    · refine lv_tableIn (off := 54) (tgt := 65) hx hb dX0_statusOfOpening_11 (by rw [c_7]; decide) (by rw [c_7]; decide) (by rw [c_7]; rfl) (by decide) ?_
      refine lv_bipush (v := 38) hx hb dX0_statusOfOpening_65 (by decide) ?_
      have hP9 := hP.sub (ws' := [(h0, .inr (0, [.int a0, .int a1, .int a2, .int a3, .int a4, .int a5, .int a6, .int a7, .int a8, .int a9, .int a10, .int a11]))]) [0] rfl
      have hD9 := hD.sub (ws' := [(h0, .inr (0, [.int a0, .int a1, .int a2, .int a3, .int a4, .int a5, .int a6, .int a7, .int a8, .int a9, .int a10, .int a11]))]) [0] (by decide) rfl
      have hK9 := hK.sub (tys' := []) [] rfl
      have ef : fx_X0_statusOfOpening a1 a2 a3 p0 = 38 := by unfold fx_X0_statusOfOpening; rw [if_pos c_1, if_neg c_2, if_neg c_3, if_neg c_5, if_neg c_6, if_pos c_7]
      exact W.iret (v := 38) hx hb hr (fun t ht hW => ⟨⟨38, [(h0, .inr (0, [.int a0, .int a1, .int a2, .int a3, .int a4, .int a5, .int a6, .int a7, .int a8, .int a9, .int a10, .int a11]))], rfl, ⟨ef.symm, rfl⟩, by rw [ht]; exact hP9, va_K.moved hW.alike hK9, hD9⟩, hS.F ht⟩) hS.2.2 dX0_statusOfOpening_67
    by_cases c_8 : p0 = 5
    · refine lv_tableIn (off := 57) (tgt := 68) hx hb dX0_statusOfOpening_11 (by rw [c_8]; decide) (by rw [c_8]; decide) (by rw [c_8]; rfl) (by decide) ?_
      refine lv_bipush (v := 30) hx hb dX0_statusOfOpening_68 (by decide) ?_
      have hP9 := hP.sub (ws' := [(h0, .inr (0, [.int a0, .int a1, .int a2, .int a3, .int a4, .int a5, .int a6, .int a7, .int a8, .int a9, .int a10, .int a11]))]) [0] rfl
      have hD9 := hD.sub (ws' := [(h0, .inr (0, [.int a0, .int a1, .int a2, .int a3, .int a4, .int a5, .int a6, .int a7, .int a8, .int a9, .int a10, .int a11]))]) [0] (by decide) rfl
      have hK9 := hK.sub (tys' := []) [] rfl
      have ef : fx_X0_statusOfOpening a1 a2 a3 p0 = 30 := by unfold fx_X0_statusOfOpening; rw [if_pos c_1, if_neg c_2, if_neg c_3, if_neg c_5, if_neg c_6, if_neg c_7, if_pos c_8]
      exact W.iret (v := 30) hx hb hr (fun t ht hW => ⟨⟨30, [(h0, .inr (0, [.int a0, .int a1, .int a2, .int a3, .int a4, .int a5, .int a6, .int a7, .int a8, .int a9, .int a10, .int a11]))], rfl, ⟨ef.symm, rfl⟩, by rw [ht]; exact hP9, va_K.moved hW.alike hK9, hD9⟩, hS.F ht⟩) hS.2.2 dX0_statusOfOpening_70
    by_cases c_9 : p0 = 6
    · refine lv_tableIn (off := 60) (tgt := 71) hx hb dX0_statusOfOpening_11 (by rw [c_9]; decide) (by rw [c_9]; decide) (by rw [c_9]; rfl) (by decide) ?_
      refine lv_bipush (v := 61) hx hb dX0_statusOfOpening_71 (by decide) ?_
      have hP9 := hP.sub (ws' := [(h0, .inr (0, [.int a0, .int a1, .int a2, .int a3, .int a4, .int a5, .int a6, .int a7, .int a8, .int a9, .int a10, .int a11]))]) [0] rfl
      have hD9 := hD.sub (ws' := [(h0, .inr (0, [.int a0, .int a1, .int a2, .int a3, .int a4, .int a5, .int a6, .int a7, .int a8, .int a9, .int a10, .int a11]))]) [0] (by decide) rfl
      have hK9 := hK.sub (tys' := []) [] rfl
      have ef : fx_X0_statusOfOpening a1 a2 a3 p0 = 61 := by unfold fx_X0_statusOfOpening; rw [if_pos c_1, if_neg c_2, if_neg c_3, if_neg c_5, if_neg c_6, if_neg c_7, if_neg c_8, if_pos c_9]
      exact W.iret (v := 61) hx hb hr (fun t ht hW => ⟨⟨61, [(h0, .inr (0, [.int a0, .int a1, .int a2, .int a3, .int a4, .int a5, .int a6, .int a7, .int a8, .int a9, .int a10, .int a11]))], rfl, ⟨ef.symm, rfl⟩, by rw [ht]; exact hP9, va_K.moved hW.alike hK9, hD9⟩, hS.F ht⟩) hS.2.2 dX0_statusOfOpening_73
    refine lv_tableOut (tgt := 74) hx hb dX0_statusOfOpening_11 (by have n_0 : (p0 : Int32).toInt ≠ 0 := xx_ne c_2 (by decide); have n_1 : (p0 : Int32).toInt ≠ 1 := xx_ne c_3 (by decide); have n_2 : (p0 : Int32).toInt ≠ 2 := xx_ne c_5 (by decide); have n_3 : (p0 : Int32).toInt ≠ 3 := xx_ne c_6 (by decide); have n_4 : (p0 : Int32).toInt ≠ 4 := xx_ne c_7 (by decide); have n_5 : (p0 : Int32).toInt ≠ 5 := xx_ne c_8 (by decide); have n_6 : (p0 : Int32).toInt ≠ 6 := xx_ne c_9 (by decide); omega) (by decide) ?_
    refine lv_bipush (v := 90) hx hb dX0_statusOfOpening_74 (by decide) ?_
    have hP9 := hP.sub (ws' := [(h0, .inr (0, [.int a0, .int a1, .int a2, .int a3, .int a4, .int a5, .int a6, .int a7, .int a8, .int a9, .int a10, .int a11]))]) [0] rfl
    have hD9 := hD.sub (ws' := [(h0, .inr (0, [.int a0, .int a1, .int a2, .int a3, .int a4, .int a5, .int a6, .int a7, .int a8, .int a9, .int a10, .int a11]))]) [0] (by decide) rfl
    have hK9 := hK.sub (tys' := []) [] rfl
    have ef : fx_X0_statusOfOpening a1 a2 a3 p0 = 90 := by unfold fx_X0_statusOfOpening; rw [if_pos c_1, if_neg c_2, if_neg c_3, if_neg c_5, if_neg c_6, if_neg c_7, if_neg c_8, if_neg c_9]
    exact W.iret (v := 90) hx hb hr (fun t ht hW => ⟨⟨90, [(h0, .inr (0, [.int a0, .int a1, .int a2, .int a3, .int a4, .int a5, .int a6, .int a7, .int a8, .int a9, .int a10, .int a11]))], rfl, ⟨ef.symm, rfl⟩, by rw [ht]; exact hP9, va_K.moved hW.alike hK9, hD9⟩, hS.F ht⟩) hS.2.2 dX0_statusOfOpening_76
  refine lv_bipush (v := 41) hx hb dX0_statusOfOpening_7 (by decide) ?_
  have hP9 := hP.sub (ws' := [(h0, .inr (0, [.int a0, .int a1, .int a2, .int a3, .int a4, .int a5, .int a6, .int a7, .int a8, .int a9, .int a10, .int a11]))]) [0] rfl
  have hD9 := hD.sub (ws' := [(h0, .inr (0, [.int a0, .int a1, .int a2, .int a3, .int a4, .int a5, .int a6, .int a7, .int a8, .int a9, .int a10, .int a11]))]) [0] (by decide) rfl
  have hK9 := hK.sub (tys' := []) [] rfl
  have ef : fx_X0_statusOfOpening a1 a2 a3 p0 = 41 := by unfold fx_X0_statusOfOpening; rw [if_neg c_1]
  exact W.iret (v := 41) hx hb hr (fun t ht hW => ⟨⟨41, [(h0, .inr (0, [.int a0, .int a1, .int a2, .int a3, .int a4, .int a5, .int a6, .int a7, .int a8, .int a9, .int a10, .int a11]))], rfl, ⟨ef.symm, rfl⟩, by rw [ht]; exact hP9, va_K.moved hW.alike hK9, hD9⟩, hS.F ht⟩) hS.2.2 dX0_statusOfOpening_9
set_option maxHeartbeats 4000000 in
set_option maxRecDepth 100000 in
theorem ct_X0_statusOfWrongMode (l : Launch) (dC : Nat → ClassId) (dI : Nat → Nat → Nat) (h0 : Nat) (sz : Nat) (a0 a1 a2 a3 a4 a5 a6 a7 a8 a9 a10 a11 p0 : Int32) : Met l yX0_statusOfWrongMode wsX0_statusOfWrongMode ({ frames := 1, cells := 0, slots := 0, locals := 20 }) (va_Pc [.ref h0, .int p0] (fun U => U.heap.size = sz ∧ va_P (dC, dI) vwCl [(h0, .inr (0, [.int a0, .int a1, .int a2, .int a3, .int a4, .int a5, .int a6, .int a7, .int a8, .int a9, .int a10, .int a11]))] U.heap ∧ va_K (dC, dI) vwCl [] U ∧ va_D (fun _ => True) [(h0, .inr (0, [.int a0, .int a1, .int a2, .int a3, .int a4, .int a5, .int a6, .int a7, .int a8, .int a9, .int a10, .int a11]))])) (va_Qi (fun (r : Int32) (u : va_W) => r = fx_X0_statusOfWrongMode a0 a1 p0 ∧ u = [(h0, .inr (0, [.int a0, .int a1, .int a2, .int a3, .int a4, .int a5, .int a6, .int a7, .int a8, .int a9, .int a10, .int a11]))]) (at_W dC dI (va_A [(h0, .inr (0, [.int a0, .int a1, .int a2, .int a3, .int a4, .int a5, .int a6, .int a7, .int a8, .int a9, .int a10, .int a11]))] sz)) (va_A [(h0, .inr (0, [.int a0, .int a1, .int a2, .int a3, .int a4, .int a5, .int a6, .int a7, .int a8, .int a9, .int a10, .int a11]))] sz)) 0 0 (va_A [(h0, .inr (0, [.int a0, .int a1, .int a2, .int a3, .int a4, .int a5, .int a6, .int a7, .int a8, .int a9, .int a10, .int a11]))] sz) := by
  refine Met.ofW (cc := cX0_statusOfWrongMode) (maxL := 2) (ret := (some .int)) (by decide) rfl ?_
  intro p e s m args below meth c s₁ B hml hv
  obtain ⟨rfl, hsz, hP, hK, hD0⟩ := hv
  have hx := B.exec
  have hb := B.bytes
  have hr := B.returns
  have hts := atoms_spec (ws := wsX0_statusOfWrongMode) B.pre
  have hown : s.vm.findClass RX0 = some m.cls := findClass_of_methodNamed B.named
  have hlocks := B.notSynchronized
  subst hsz
  have hD := hD0.self (sz := s.heap.size)
  generalize hAe : va_A [(h0, .inr (0, [.int a0, .int a1, .int a2, .int a3, .int a4, .int a5, .int a6, .int a7, .int a8, .int a9, .int a10, .int a11]))] s.heap.size = A at hD ⊢
  have hA : ∀ q : Nat, s.heap.size ≤ q → A q := fun q h => by rw [← hAe]; exact Or.inr h
  have hS : va_S A s.heap s.heap [] := va_S.rf
  have hP : va_P (dC, dI) vwCl [(h0, .inr (0, [.int a0, .int a1, .int a2, .int a3, .int a4, .int a5, .int a6, .int a7, .int a8, .int a9, .int a10, .int a11]))] s.heap := hP
  have hl := lv_entry ([.ref h0, .int p0]) (n := 2) (Nat.le_of_ble_eq_true rfl)
  rw [lg_entry_eq]
  generalize (lg_sl ([.ref h0, .int p0]) ++ List.replicate (2 - (lg_sl ([.ref h0, .int p0])).length) Slot.unset).toArray = ls at hl ⊢
  have hl : lv_has ls 2 [(0, .ref h0), (1, .int p0)] := hl
  refine lv_iload_n hx hb dX0_statusOfWrongMode_0 rfl (lv_at hl 1 rfl) ?_
  by_cases c_1 : p0 = 0
  · refine lv_tableIn (off := 39) (tgt := 40) hx hb dX0_statusOfWrongMode_1 (by rw [c_1]; decide) (by rw [c_1]; decide) (by rw [c_1]; rfl) (by decide) ?_
    refine lv_aload_n hx hb dX0_statusOfWrongMode_40 rfl (lv_at hl 0 rfl) ?_
    have hPc := hP.sub (ws' := [(h0, .inr (0, [.int a0, .int a1, .int a2, .int a3, .int a4, .int a5, .int a6, .int a7, .int a8, .int a9, .int a10, .int a11]))]) [0] rfl
    have hDc := hD.sub (ws' := [(h0, .inr (0, [.int a0, .int a1, .int a2, .int a3, .int a4, .int a5, .int a6, .int a7, .int a8, .int a9, .int a10, .int a11]))]) [0] (by decide) rfl
    have hKc := hK.sub (tys' := []) [] rfl
    have hFc := va_free (wc := [(h0, .inr (0, [.int a0, .int a1, .int a2, .int a3, .int a4, .int a5, .int a6, .int a7, .int a8, .int a9, .int a10, .int a11]))]) hD hS hA [0] rfl
    refine va_calli (va_runV (As := []) (rest := []) ⟨hx, hb, hml, hown, hts⟩ (ct_X0_isForReading l dC dI h0 s.heap.size a0 a1 a2 a3 a4 a5 a6 a7 a8 a9 a10 a11) (cwV 0 hts gX0_statusOfWrongMode_X0_isForReading rfl rfl rfl (by decide +kernel) ⟨Nat.le_of_ble_eq_true rfl, Nat.le_of_ble_eq_true rfl⟩) ⟨fun a U g mk q => by obtain ⟨q0, q1, qP, qK, qD⟩ := q; exact ⟨q0, q1, qP, va_K.moved (u := U) (U := U.calling g mk a) (Vm.Alike.refl U.vm) qK, qD⟩, va_recv hKc hPc (ci := 0) (q0 := 0) rfl rfl, fun U hU hW => ⟨rfl, by rw [hU], by rw [hU]; exact hPc, va_K.moved hW.alike hKc, hDc.weaken (fun _ _ _ _ => trivial)⟩⟩ rfl rfl hl.1 rfl (lv_room (Nat.le_of_ble_eq_true rfl)) dX0_statusOfWrongMode_41 ⟨(Nat.zero_le _), (Nat.zero_le _)⟩) hS (fun q _ h => hFc q h) hFc (fun r_2 u t H1 locs ht hvm hw hB hz1 hk1 hS => ?_)
    obtain ⟨er, hu⟩ := hw
    subst hu
    subst er
    obtain ⟨hP1, hK1, hD1⟩ := hB
    rw [ht] at hP1
    have hK1 := va_K.moved hvm.symm hK1
    obtain ⟨hP, hD⟩ := va_join (wr := []) (w1 := [(h0, .inr (0, [.int a0, .int a1, .int a2, .int a3, .int a4, .int a5, .int a6, .int a7, .int a8, .int a9, .int a10, .int a11]))]) hP hD [0] [] rfl rfl (by decide) (by decide) hk1 hFc hP1 hD1
    have hK := (hK.sub (tys' := []) [] rfl).app hK1
    generalize H1 = H at hP hS ⊢
    have hP : va_P (dC, dI) vwCl [(h0, .inr (0, [.int a0, .int a1, .int a2, .int a3, .int a4, .int a5, .int a6, .int a7, .int a8, .int a9, .int a10, .int a11]))] H := hP
    have hD : va_D A [(h0, .inr (0, [.int a0, .int a1, .int a2, .int a3, .int a4, .int a5, .int a6, .int a7, .int a8, .int a9, .int a10, .int a11]))] := hD
    have hK : va_K (dC, dI) vwCl [] s := hK
    refine lv_if_eq (tgt := 51) hx hb dX0_statusOfWrongMode_44 (by decide) (fun c_3 => ?_) (fun c_3 => ?_)
    · refine lv_bipush (v := 47) hx hb dX0_statusOfWrongMode_51 (by decide) ?_
      have hP9 := hP.sub (ws' := [(h0, .inr (0, [.int a0, .int a1, .int a2, .int a3, .int a4, .int a5, .int a6, .int a7, .int a8, .int a9, .int a10, .int a11]))]) [0] rfl
      have hD9 := hD.sub (ws' := [(h0, .inr (0, [.int a0, .int a1, .int a2, .int a3, .int a4, .int a5, .int a6, .int a7, .int a8, .int a9, .int a10, .int a11]))]) [0] (by decide) rfl
      have hK9 := hK.sub (tys' := []) [] rfl
      have ef : fx_X0_statusOfWrongMode a0 a1 p0 = 47 := by unfold fx_X0_statusOfWrongMode; rw [if_pos c_1, if_pos c_3]
      exact W.iret (v := 47) hx hb hr (fun t ht hW => ⟨⟨47, [(h0, .inr (0, [.int a0, .int a1, .int a2, .int a3, .int a4, .int a5, .int a6, .int a7, .int a8, .int a9, .int a10, .int a11]))], rfl, ⟨ef.symm, rfl⟩, by rw [ht]; exact hP9, va_K.moved hW.alike hK9, hD9⟩, hS.F ht⟩) hS.2.2 dX0_statusOfWrongMode_53
    refine lv_iconst (v := (-1)) hx hb dX0_statusOfWrongMode_47 (by decide) ?_
    refine lv_goto (tgt := 53) hx hb dX0_statusOfWrongMode_48 (by decide) ?_
    have hP9 := hP.sub (ws' := [(h0, .inr (0, [.int a0, .int a1, .int a2, .int a3, .int a4, .int a5, .int a6, .int a7, .int a8, .int a9, .int a10, .int a11]))]) [0] rfl
    have hD9 := hD.sub (ws' := [(h0, .inr (0, [.int a0, .int a1, .int a2, .int a3, .int a4, .int a5, .int a6, .int a7, .int a8, .int a9, .int a10, .int a11]))]) [0] (by decide) rfl
    have hK9 := hK.sub (tys' := []) [] rfl
    have ef : fx_X0_statusOfWrongMode a0 a1 p0 = (-1) := by unfold fx_X0_statusOfWrongMode; rw [if_pos c_1, if_neg c_3]
    exact W.iret (v := (-1)) hx hb hr (fun t ht hW => ⟨⟨(-1), [(h0, .inr (0, [.int a0, .int a1, .int a2, .int a3, .int a4, .int a5, .int a6, .int a7, .int a8, .int a9, .int a10, .int a11]))], rfl, ⟨ef.symm, rfl⟩, by rw [ht]; exact hP9, va_K.moved hW.alike hK9, hD9⟩, hS.F ht⟩) hS.2.2 dX0_statusOfWrongMode_53
  by_cases c_4 : p0 = 1
  · refine lv_tableIn (off := 39) (tgt := 40) hx hb dX0_statusOfWrongMode_1 (by rw [c_4]; decide) (by rw [c_4]; decide) (by rw [c_4]; rfl) (by decide) ?_
    refine lv_aload_n hx hb dX0_statusOfWrongMode_40 rfl (lv_at hl 0 rfl) ?_
    have hPc := hP.sub (ws' := [(h0, .inr (0, [.int a0, .int a1, .int a2, .int a3, .int a4, .int a5, .int a6, .int a7, .int a8, .int a9, .int a10, .int a11]))]) [0] rfl
    have hDc := hD.sub (ws' := [(h0, .inr (0, [.int a0, .int a1, .int a2, .int a3, .int a4, .int a5, .int a6, .int a7, .int a8, .int a9, .int a10, .int a11]))]) [0] (by decide) rfl
    have hKc := hK.sub (tys' := []) [] rfl
    have hFc := va_free (wc := [(h0, .inr (0, [.int a0, .int a1, .int a2, .int a3, .int a4, .int a5, .int a6, .int a7, .int a8, .int a9, .int a10, .int a11]))]) hD hS hA [0] rfl
    refine va_calli (va_runV (As := []) (rest := []) ⟨hx, hb, hml, hown, hts⟩ (ct_X0_isForReading l dC dI h0 s.heap.size a0 a1 a2 a3 a4 a5 a6 a7 a8 a9 a10 a11) (cwV 0 hts gX0_statusOfWrongMode_X0_isForReading rfl rfl rfl (by decide +kernel) ⟨Nat.le_of_ble_eq_true rfl, Nat.le_of_ble_eq_true rfl⟩) ⟨fun a U g mk q => by obtain ⟨q0, q1, qP, qK, qD⟩ := q; exact ⟨q0, q1, qP, va_K.moved (u := U) (U := U.calling g mk a) (Vm.Alike.refl U.vm) qK, qD⟩, va_recv hKc hPc (ci := 0) (q0 := 0) rfl rfl, fun U hU hW => ⟨rfl, by rw [hU], by rw [hU]; exact hPc, va_K.moved hW.alike hKc, hDc.weaken (fun _ _ _ _ => trivial)⟩⟩ rfl rfl hl.1 rfl (lv_room (Nat.le_of_ble_eq_true rfl)) dX0_statusOfWrongMode_41 ⟨(Nat.zero_le _), (Nat.zero_le _)⟩) hS (fun q _ h => hFc q h) hFc (fun r_5 u t H1 locs ht hvm hw hB hz1 hk1 hS => ?_)
    obtain ⟨er, hu⟩ := hw
    subst hu
    subst er
    obtain ⟨hP1, hK1, hD1⟩ := hB
    rw [ht] at hP1
    have hK1 := va_K.moved hvm.symm hK1
    obtain ⟨hP, hD⟩ := va_join (wr := []) (w1 := [(h0, .inr (0, [.int a0, .int a1, .int a2, .int a3, .int a4, .int a5, .int a6, .int a7, .int a8, .int a9, .int a10, .int a11]))]) hP hD [0] [] rfl rfl (by decide) (by decide) hk1 hFc hP1 hD1
    have hK := (hK.sub (tys' := []) [] rfl).app hK1
    generalize H1 = H at hP hS ⊢
    have hP : va_P (dC, dI) vwCl [(h0, .inr (0, [.int a0, .int a1, .int a2, .int a3, .int a4, .int a5, .int a6, .int a7, .int a8, .int a9, .int a10, .int a11]))] H := hP
    have hD : va_D A [(h0, .inr (0, [.int a0, .int a1, .int a2, .int a3, .int a4, .int a5, .int a6, .int a7, .int a8, .int a9, .int a10, .int a11]))] := hD
    have hK : va_K (dC, dI) vwCl [] s := hK
    refine lv_if_eq (tgt := 51) hx hb dX0_statusOfWrongMode_44 (by decide) (fun c_6 => ?_) (fun c_6 => ?_)
    · refine lv_bipush (v := 47) hx hb dX0_statusOfWrongMode_51 (by decide) ?_
      have hP9 := hP.sub (ws' := [(h0, .inr (0, [.int a0, .int a1, .int a2, .int a3, .int a4, .int a5, .int a6, .int a7, .int a8, .int a9, .int a10, .int a11]))]) [0] rfl
      have hD9 := hD.sub (ws' := [(h0, .inr (0, [.int a0, .int a1, .int a2, .int a3, .int a4, .int a5, .int a6, .int a7, .int a8, .int a9, .int a10, .int a11]))]) [0] (by decide) rfl
      have hK9 := hK.sub (tys' := []) [] rfl
      have ef : fx_X0_statusOfWrongMode a0 a1 p0 = 47 := by unfold fx_X0_statusOfWrongMode; rw [if_neg c_1, if_pos c_4, if_pos c_6]
      exact W.iret (v := 47) hx hb hr (fun t ht hW => ⟨⟨47, [(h0, .inr (0, [.int a0, .int a1, .int a2, .int a3, .int a4, .int a5, .int a6, .int a7, .int a8, .int a9, .int a10, .int a11]))], rfl, ⟨ef.symm, rfl⟩, by rw [ht]; exact hP9, va_K.moved hW.alike hK9, hD9⟩, hS.F ht⟩) hS.2.2 dX0_statusOfWrongMode_53
    refine lv_iconst (v := (-1)) hx hb dX0_statusOfWrongMode_47 (by decide) ?_
    refine lv_goto (tgt := 53) hx hb dX0_statusOfWrongMode_48 (by decide) ?_
    have hP9 := hP.sub (ws' := [(h0, .inr (0, [.int a0, .int a1, .int a2, .int a3, .int a4, .int a5, .int a6, .int a7, .int a8, .int a9, .int a10, .int a11]))]) [0] rfl
    have hD9 := hD.sub (ws' := [(h0, .inr (0, [.int a0, .int a1, .int a2, .int a3, .int a4, .int a5, .int a6, .int a7, .int a8, .int a9, .int a10, .int a11]))]) [0] (by decide) rfl
    have hK9 := hK.sub (tys' := []) [] rfl
    have ef : fx_X0_statusOfWrongMode a0 a1 p0 = (-1) := by unfold fx_X0_statusOfWrongMode; rw [if_neg c_1, if_pos c_4, if_neg c_6]
    exact W.iret (v := (-1)) hx hb hr (fun t ht hW => ⟨⟨(-1), [(h0, .inr (0, [.int a0, .int a1, .int a2, .int a3, .int a4, .int a5, .int a6, .int a7, .int a8, .int a9, .int a10, .int a11]))], rfl, ⟨ef.symm, rfl⟩, by rw [ht]; exact hP9, va_K.moved hW.alike hK9, hD9⟩, hS.F ht⟩) hS.2.2 dX0_statusOfWrongMode_53
  by_cases c_7 : p0 = 2
  · refine lv_tableIn (off := 53) (tgt := 54) hx hb dX0_statusOfWrongMode_1 (by rw [c_7]; decide) (by rw [c_7]; decide) (by rw [c_7]; rfl) (by decide) ?_
    refine lv_aload_n hx hb dX0_statusOfWrongMode_54 rfl (lv_at hl 0 rfl) ?_
    have hPc := hP.sub (ws' := [(h0, .inr (0, [.int a0, .int a1, .int a2, .int a3, .int a4, .int a5, .int a6, .int a7, .int a8, .int a9, .int a10, .int a11]))]) [0] rfl
    have hDc := hD.sub (ws' := [(h0, .inr (0, [.int a0, .int a1, .int a2, .int a3, .int a4, .int a5, .int a6, .int a7, .int a8, .int a9, .int a10, .int a11]))]) [0] (by decide) rfl
    have hKc := hK.sub (tys' := []) [] rfl
    have hFc := va_free (wc := [(h0, .inr (0, [.int a0, .int a1, .int a2, .int a3, .int a4, .int a5, .int a6, .int a7, .int a8, .int a9, .int a10, .int a11]))]) hD hS hA [0] rfl
    refine va_calli (va_runV (As := []) (rest := []) ⟨hx, hb, hml, hown, hts⟩ (ct_X0_isForWriting l dC dI h0 s.heap.size a0 a1 a2 a3 a4 a5 a6 a7 a8 a9 a10 a11) (cwV 0 hts gX0_statusOfWrongMode_X0_isForWriting rfl rfl rfl (by decide +kernel) ⟨Nat.le_of_ble_eq_true rfl, Nat.le_of_ble_eq_true rfl⟩) ⟨fun a U g mk q => by obtain ⟨q0, q1, qP, qK, qD⟩ := q; exact ⟨q0, q1, qP, va_K.moved (u := U) (U := U.calling g mk a) (Vm.Alike.refl U.vm) qK, qD⟩, va_recv hKc hPc (ci := 0) (q0 := 0) rfl rfl, fun U hU hW => ⟨rfl, by rw [hU], by rw [hU]; exact hPc, va_K.moved hW.alike hKc, hDc.weaken (fun _ _ _ _ => trivial)⟩⟩ rfl rfl hl.1 rfl (lv_room (Nat.le_of_ble_eq_true rfl)) dX0_statusOfWrongMode_55 ⟨(Nat.zero_le _), (Nat.zero_le _)⟩) hS (fun q _ h => hFc q h) hFc (fun r_8 u t H1 locs ht hvm hw hB hz1 hk1 hS => ?_)
    obtain ⟨er, hu⟩ := hw
    subst hu
    subst er
    obtain ⟨hP1, hK1, hD1⟩ := hB
    rw [ht] at hP1
    have hK1 := va_K.moved hvm.symm hK1
    obtain ⟨hP, hD⟩ := va_join (wr := []) (w1 := [(h0, .inr (0, [.int a0, .int a1, .int a2, .int a3, .int a4, .int a5, .int a6, .int a7, .int a8, .int a9, .int a10, .int a11]))]) hP hD [0] [] rfl rfl (by decide) (by decide) hk1 hFc hP1 hD1
    have hK := (hK.sub (tys' := []) [] rfl).app hK1
    generalize H1 = H at hP hS ⊢
    have hP : va_P (dC, dI) vwCl [(h0, .inr (0, [.int a0, .int a1, .int a2, .int a3, .int a4, .int a5, .int a6, .int a7, .int a8, .int a9, .int a10, .int a11]))] H := hP
    have hD : va_D A [(h0, .inr (0, [.int a0, .int a1, .int a2, .int a3, .int a4, .int a5, .int a6, .int a7, .int a8, .int a9, .int a10, .int a11]))] := hD
    have hK : va_K (dC, dI) vwCl [] s := hK
    refine lv_if_eq (tgt := 65) hx hb dX0_statusOfWrongMode_58 (by decide) (fun c_9 => ?_) (fun c_9 => ?_)
    · refine lv_bipush (v := 48) hx hb dX0_statusOfWrongMode_65 (by decide) ?_
      have hP9 := hP.sub (ws' := [(h0, .inr (0, [.int a0, .int a1, .int a2, .int a3, .int a4, .int a5, .int a6, .int a7, .int a8, .int a9, .int a10, .int a11]))]) [0] rfl
      have hD9 := hD.sub (ws' := [(h0, .inr (0, [.int a0, .int a1, .int a2, .int a3, .int a4, .int a5, .int a6, .int a7, .int a8, .int a9, .int a10, .int a11]))]) [0] (by decide) rfl
      have hK9 := hK.sub (tys' := []) [] rfl
      have ef : fx_X0_statusOfWrongMode a0 a1 p0 = 48 := by unfold fx_X0_statusOfWrongMode; rw [if_neg c_1, if_neg c_4, if_pos c_7, if_pos c_9]
      exact W.iret (v := 48) hx hb hr (fun t ht hW => ⟨⟨48, [(h0, .inr (0, [.int a0, .int a1, .int a2, .int a3, .int a4, .int a5, .int a6, .int a7, .int a8, .int a9, .int a10, .int a11]))], rfl, ⟨ef.symm, rfl⟩, by rw [ht]; exact hP9, va_K.moved hW.alike hK9, hD9⟩, hS.F ht⟩) hS.2.2 dX0_statusOfWrongMode_67
    refine lv_iconst (v := (-1)) hx hb dX0_statusOfWrongMode_61 (by decide) ?_
    refine lv_goto (tgt := 67) hx hb dX0_statusOfWrongMode_62 (by decide) ?_
    have hP9 := hP.sub (ws' := [(h0, .inr (0, [.int a0, .int a1, .int a2, .int a3, .int a4, .int a5, .int a6, .int a7, .int a8, .int a9, .int a10, .int a11]))]) [0] rfl
    have hD9 := hD.sub (ws' := [(h0, .inr (0, [.int a0, .int a1, .int a2, .int a3, .int a4, .int a5, .int a6, .int a7, .int a8, .int a9, .int a10, .int a11]))]) [0] (by decide) rfl
    have hK9 := hK.sub (tys' := []) [] rfl
    have ef : fx_X0_statusOfWrongMode a0 a1 p0 = (-1) := by unfold fx_X0_statusOfWrongMode; rw [if_neg c_1, if_neg c_4, if_pos c_7, if_neg c_9]
    exact W.iret (v := (-1)) hx hb hr (fun t ht hW => ⟨⟨(-1), [(h0, .inr (0, [.int a0, .int a1, .int a2, .int a3, .int a4, .int a5, .int a6, .int a7, .int a8, .int a9, .int a10, .int a11]))], rfl, ⟨ef.symm, rfl⟩, by rw [ht]; exact hP9, va_K.moved hW.alike hK9, hD9⟩, hS.F ht⟩) hS.2.2 dX0_statusOfWrongMode_67
  by_cases c_10 : p0 = 3
  · refine lv_tableIn (off := 67) (tgt := 68) hx hb dX0_statusOfWrongMode_1 (by rw [c_10]; decide) (by rw [c_10]; decide) (by rw [c_10]; rfl) (by decide) ?_
    refine lv_aload_n hx hb dX0_statusOfWrongMode_68 rfl (lv_at hl 0 rfl) ?_
    refine va_get (D := (dC, dI)) (ci := 0) (v := .int a1) (C := RX0) (T := TX0) (N := 12) hx hb hts (fun _ h => List.mem_cons_of_mem _ (List.mem_append_right _ h)) hown hK hP 0 rfl rfl 1 (by decide) (hts (.fieldLink RX0 9 "FileStatus" "chosenMode" "I") (by decide +kernel)) (fun _ h9 => h9) rfl dX0_statusOfWrongMode_69 ?_
    refine lv_iconst (v := 2) hx hb dX0_statusOfWrongMode_72 (by decide) ?_
    refine lv_icmp_ne (tgt := 80) hx hb dX0_statusOfWrongMode_73 (by decide) (fun c_11 => ?_) (fun c_11 => ?_)
    · refine lv_bipush (v := 49) hx hb dX0_statusOfWrongMode_80 (by decide) ?_
      have hP9 := hP.sub (ws' := [(h0, .inr (0, [.int a0, .int a1, .int a2, .int a3, .int a4, .int a5, .int a6, .int a7, .int a8, .int a9, .int a10, .int a11]))]) [0] rfl
      have hD9 := hD.sub (ws' := [(h0, .inr (0, [.int a0, .int a1, .int a2, .int a3, .int a4, .int a5, .int a6, .int a7, .int a8, .int a9, .int a10, .int a11]))]) [0] (by decide) rfl
      have hK9 := hK.sub (tys' := []) [] rfl
      have ef : fx_X0_statusOfWrongMode a0 a1 p0 = 49 := by unfold fx_X0_statusOfWrongMode; rw [if_neg c_1, if_neg c_4, if_neg c_7, if_pos c_10, if_neg c_11]
      exact W.iret (v := 49) hx hb hr (fun t ht hW => ⟨⟨49, [(h0, .inr (0, [.int a0, .int a1, .int a2, .int a3, .int a4, .int a5, .int a6, .int a7, .int a8, .int a9, .int a10, .int a11]))], rfl, ⟨ef.symm, rfl⟩, by rw [ht]; exact hP9, va_K.moved hW.alike hK9, hD9⟩, hS.F ht⟩) hS.2.2 dX0_statusOfWrongMode_82
    refine lv_iconst (v := (-1)) hx hb dX0_statusOfWrongMode_76 (by decide) ?_
    refine lv_goto (tgt := 82) hx hb dX0_statusOfWrongMode_77 (by decide) ?_
    have hP9 := hP.sub (ws' := [(h0, .inr (0, [.int a0, .int a1, .int a2, .int a3, .int a4, .int a5, .int a6, .int a7, .int a8, .int a9, .int a10, .int a11]))]) [0] rfl
    have hD9 := hD.sub (ws' := [(h0, .inr (0, [.int a0, .int a1, .int a2, .int a3, .int a4, .int a5, .int a6, .int a7, .int a8, .int a9, .int a10, .int a11]))]) [0] (by decide) rfl
    have hK9 := hK.sub (tys' := []) [] rfl
    have ef : fx_X0_statusOfWrongMode a0 a1 p0 = (-1) := by unfold fx_X0_statusOfWrongMode; rw [if_neg c_1, if_neg c_4, if_neg c_7, if_pos c_10, if_pos c_11]
    exact W.iret (v := (-1)) hx hb hr (fun t ht hW => ⟨⟨(-1), [(h0, .inr (0, [.int a0, .int a1, .int a2, .int a3, .int a4, .int a5, .int a6, .int a7, .int a8, .int a9, .int a10, .int a11]))], rfl, ⟨ef.symm, rfl⟩, by rw [ht]; exact hP9, va_K.moved hW.alike hK9, hD9⟩, hS.F ht⟩) hS.2.2 dX0_statusOfWrongMode_82
  by_cases c_12 : p0 = 4
  · refine lv_tableIn (off := 67) (tgt := 68) hx hb dX0_statusOfWrongMode_1 (by rw [c_12]; decide) (by rw [c_12]; decide) (by rw [c_12]; rfl) (by decide) ?_
    refine lv_aload_n hx hb dX0_statusOfWrongMode_68 rfl (lv_at hl 0 rfl) ?_
    refine va_get (D := (dC, dI)) (ci := 0) (v := .int a1) (C := RX0) (T := TX0) (N := 12) hx hb hts (fun _ h => List.mem_cons_of_mem _ (List.mem_append_right _ h)) hown hK hP 0 rfl rfl 1 (by decide) (hts (.fieldLink RX0 9 "FileStatus" "chosenMode" "I") (by decide +kernel)) (fun _ h9 => h9) rfl dX0_statusOfWrongMode_69 ?_
    refine lv_iconst (v := 2) hx hb dX0_statusOfWrongMode_72 (by decide) ?_
    refine lv_icmp_ne (tgt := 80) hx hb dX0_statusOfWrongMode_73 (by decide) (fun c_13 => ?_) (fun c_13 => ?_)
    · refine lv_bipush (v := 49) hx hb dX0_statusOfWrongMode_80 (by decide) ?_
      have hP9 := hP.sub (ws' := [(h0, .inr (0, [.int a0, .int a1, .int a2, .int a3, .int a4, .int a5, .int a6, .int a7, .int a8, .int a9, .int a10, .int a11]))]) [0] rfl
      have hD9 := hD.sub (ws' := [(h0, .inr (0, [.int a0, .int a1, .int a2, .int a3, .int a4, .int a5, .int a6, .int a7, .int a8, .int a9, .int a10, .int a11]))]) [0] (by decide) rfl
      have hK9 := hK.sub (tys' := []) [] rfl
      have ef : fx_X0_statusOfWrongMode a0 a1 p0 = 49 := by unfold fx_X0_statusOfWrongMode; rw [if_neg c_1, if_neg c_4, if_neg c_7, if_neg c_10, if_pos c_12, if_neg c_13]
      exact W.iret (v := 49) hx hb hr (fun t ht hW => ⟨⟨49, [(h0, .inr (0, [.int a0, .int a1, .int a2, .int a3, .int a4, .int a5, .int a6, .int a7, .int a8, .int a9, .int a10, .int a11]))], rfl, ⟨ef.symm, rfl⟩, by rw [ht]; exact hP9, va_K.moved hW.alike hK9, hD9⟩, hS.F ht⟩) hS.2.2 dX0_statusOfWrongMode_82
    refine lv_iconst (v := (-1)) hx hb dX0_statusOfWrongMode_76 (by decide) ?_
    refine lv_goto (tgt := 82) hx hb dX0_statusOfWrongMode_77 (by decide) ?_
    have hP9 := hP.sub (ws' := [(h0, .inr (0, [.int a0, .int a1, .int a2, .int a3, .int a4, .int a5, .int a6, .int a7, .int a8, .int a9, .int a10, .int a11]))]) [0] rfl
    have hD9 := hD.sub (ws' := [(h0, .inr (0, [.int a0, .int a1, .int a2, .int a3, .int a4, .int a5, .int a6, .int a7, .int a8, .int a9, .int a10, .int a11]))]) [0] (by decide) rfl
    have hK9 := hK.sub (tys' := []) [] rfl
    have ef : fx_X0_statusOfWrongMode a0 a1 p0 = (-1) := by unfold fx_X0_statusOfWrongMode; rw [if_neg c_1, if_neg c_4, if_neg c_7, if_neg c_10, if_pos c_12, if_pos c_13]
    exact W.iret (v := (-1)) hx hb hr (fun t ht hW => ⟨⟨(-1), [(h0, .inr (0, [.int a0, .int a1, .int a2, .int a3, .int a4, .int a5, .int a6, .int a7, .int a8, .int a9, .int a10, .int a11]))], rfl, ⟨ef.symm, rfl⟩, by rw [ht]; exact hP9, va_K.moved hW.alike hK9, hD9⟩, hS.F ht⟩) hS.2.2 dX0_statusOfWrongMode_82
  by_cases c_14 : p0 = 5
  · refine lv_tableIn (off := 39) (tgt := 40) hx hb dX0_statusOfWrongMode_1 (by rw [c_14]; decide) (by rw [c_14]; decide) (by rw [c_14]; rfl) (by decide) ?_
    refine lv_aload_n hx hb dX0_statusOfWrongMode_40 rfl (lv_at hl 0 rfl) ?_
    have hPc := hP.sub (ws' := [(h0, .inr (0, [.int a0, .int a1, .int a2, .int a3, .int a4, .int a5, .int a6, .int a7, .int a8, .int a9, .int a10, .int a11]))]) [0] rfl
    have hDc := hD.sub (ws' := [(h0, .inr (0, [.int a0, .int a1, .int a2, .int a3, .int a4, .int a5, .int a6, .int a7, .int a8, .int a9, .int a10, .int a11]))]) [0] (by decide) rfl
    have hKc := hK.sub (tys' := []) [] rfl
    have hFc := va_free (wc := [(h0, .inr (0, [.int a0, .int a1, .int a2, .int a3, .int a4, .int a5, .int a6, .int a7, .int a8, .int a9, .int a10, .int a11]))]) hD hS hA [0] rfl
    refine va_calli (va_runV (As := []) (rest := []) ⟨hx, hb, hml, hown, hts⟩ (ct_X0_isForReading l dC dI h0 s.heap.size a0 a1 a2 a3 a4 a5 a6 a7 a8 a9 a10 a11) (cwV 0 hts gX0_statusOfWrongMode_X0_isForReading rfl rfl rfl (by decide +kernel) ⟨Nat.le_of_ble_eq_true rfl, Nat.le_of_ble_eq_true rfl⟩) ⟨fun a U g mk q => by obtain ⟨q0, q1, qP, qK, qD⟩ := q; exact ⟨q0, q1, qP, va_K.moved (u := U) (U := U.calling g mk a) (Vm.Alike.refl U.vm) qK, qD⟩, va_recv hKc hPc (ci := 0) (q0 := 0) rfl rfl, fun U hU hW => ⟨rfl, by rw [hU], by rw [hU]; exact hPc, va_K.moved hW.alike hKc, hDc.weaken (fun _ _ _ _ => trivial)⟩⟩ rfl rfl hl.1 rfl (lv_room (Nat.le_of_ble_eq_true rfl)) dX0_statusOfWrongMode_41 ⟨(Nat.zero_le _), (Nat.zero_le _)⟩) hS (fun q _ h => hFc q h) hFc (fun r_15 u t H1 locs ht hvm hw hB hz1 hk1 hS => ?_)
    obtain ⟨er, hu⟩ := hw
    subst hu
    subst er
    obtain ⟨hP1, hK1, hD1⟩ := hB
    rw [ht] at hP1
    have hK1 := va_K.moved hvm.symm hK1
    obtain ⟨hP, hD⟩ := va_join (wr := []) (w1 := [(h0, .inr (0, [.int a0, .int a1, .int a2, .int a3, .int a4, .int a5, .int a6, .int a7, .int a8, .int a9, .int a10, .int a11]))]) hP hD [0] [] rfl rfl (by decide) (by decide) hk1 hFc hP1 hD1
    have hK := (hK.sub (tys' := []) [] rfl).app hK1
    generalize H1 = H at hP hS ⊢
    have hP : va_P (dC, dI) vwCl [(h0, .inr (0, [.int a0, .int a1, .int a2, .int a3, .int a4, .int a5, .int a6, .int a7, .int a8, .int a9, .int a10, .int a11]))] H := hP
    have hD : va_D A [(h0, .inr (0, [.int a0, .int a1, .int a2, .int a3, .int a4, .int a5, .int a6, .int a7, .int a8, .int a9, .int a10, .int a11]))] := hD
    have hK : va_K (dC, dI) vwCl [] s := hK
    refine lv_if_eq (tgt := 51) hx hb dX0_statusOfWrongMode_44 (by decide) (fun c_16 => ?_) (fun c_16 => ?_)
    · refine lv_bipush (v := 47) hx hb dX0_statusOfWrongMode_51 (by decide) ?_
      have hP9 := hP.sub (ws' := [(h0, .inr (0, [.int a0, .int a1, .int a2, .int a3, .int a4, .int a5, .int a6, .int a7, .int a8, .int a9, .int a10, .int a11]))]) [0] rfl
      have hD9 := hD.sub (ws' := [(h0, .inr (0, [.int a0, .int a1, .int a2, .int a3, .int a4, .int a5, .int a6, .int a7, .int a8, .int a9, .int a10, .int a11]))]) [0] (by decide) rfl
      have hK9 := hK.sub (tys' := []) [] rfl
      have ef : fx_X0_statusOfWrongMode a0 a1 p0 = 47 := by unfold fx_X0_statusOfWrongMode; rw [if_neg c_1, if_neg c_4, if_neg c_7, if_neg c_10, if_neg c_12, if_pos c_14, if_pos c_16]
      exact W.iret (v := 47) hx hb hr (fun t ht hW => ⟨⟨47, [(h0, .inr (0, [.int a0, .int a1, .int a2, .int a3, .int a4, .int a5, .int a6, .int a7, .int a8, .int a9, .int a10, .int a11]))], rfl, ⟨ef.symm, rfl⟩, by rw [ht]; exact hP9, va_K.moved hW.alike hK9, hD9⟩, hS.F ht⟩) hS.2.2 dX0_statusOfWrongMode_53
    refine lv_iconst (v := (-1)) hx hb dX0_statusOfWrongMode_47 (by decide) ?_
    refine lv_goto (tgt := 53) hx hb dX0_statusOfWrongMode_48 (by decide) ?_
    have hP9 := hP.sub (ws' := [(h0, .inr (0, [.int a0, .int a1, .int a2, .int a3, .int a4, .int a5, .int a6, .int a7, .int a8, .int a9, .int a10, .int a11]))]) [0] rfl
    have hD9 := hD.sub (ws' := [(h0, .inr (0, [.int a0, .int a1, .int a2, .int a3, .int a4, .int a5, .int a6, .int a7, .int a8, .int a9, .int a10, .int a11]))]) [0] (by decide) rfl
    have hK9 := hK.sub (tys' := []) [] rfl
    have ef : fx_X0_statusOfWrongMode a0 a1 p0 = (-1) := by unfold fx_X0_statusOfWrongMode; rw [if_neg c_1, if_neg c_4, if_neg c_7, if_neg c_10, if_neg c_12, if_pos c_14, if_neg c_16]
    exact W.iret (v := (-1)) hx hb hr (fun t ht hW => ⟨⟨(-1), [(h0, .inr (0, [.int a0, .int a1, .int a2, .int a3, .int a4, .int a5, .int a6, .int a7, .int a8, .int a9, .int a10, .int a11]))], rfl, ⟨ef.symm, rfl⟩, by rw [ht]; exact hP9, va_K.moved hW.alike hK9, hD9⟩, hS.F ht⟩) hS.2.2 dX0_statusOfWrongMode_53
  refine lv_tableOut (tgt := 83) hx hb dX0_statusOfWrongMode_1 (by have n_0 : (p0 : Int32).toInt ≠ 0 := xx_ne c_1 (by decide); have n_1 : (p0 : Int32).toInt ≠ 1 := xx_ne c_4 (by decide); have n_2 : (p0 : Int32).toInt ≠ 2 := xx_ne c_7 (by decide); have n_3 : (p0 : Int32).toInt ≠ 3 := xx_ne c_10 (by decide); have n_4 : (p0 : Int32).toInt ≠ 4 := xx_ne c_12 (by decide); have n_5 : (p0 : Int32).toInt ≠ 5 := xx_ne c_14 (by decide); omega) (by decide) ?_
  refine lv_iconst (v := (-1)) hx hb dX0_statusOfWrongMode_83 (by decide) ?_
  have hP9 := hP.sub (ws' := [(h0, .inr (0, [.int a0, .int a1, .int a2, .int a3, .int a4, .int a5, .int a6, .int a7, .int a8, .int a9, .int a10, .int a11]))]) [0] rfl
  have hD9 := hD.sub (ws' := [(h0, .inr (0, [.int a0, .int a1, .int a2, .int a3, .int a4, .int a5, .int a6, .int a7, .int a8, .int a9, .int a10, .int a11]))]) [0] (by decide) rfl
  have hK9 := hK.sub (tys' := []) [] rfl
  have ef : fx_X0_statusOfWrongMode a0 a1 p0 = (-1) := by unfold fx_X0_statusOfWrongMode; rw [if_neg c_1, if_neg c_4, if_neg c_7, if_neg c_10, if_neg c_12, if_neg c_14]
  exact W.iret (v := (-1)) hx hb hr (fun t ht hW => ⟨⟨(-1), [(h0, .inr (0, [.int a0, .int a1, .int a2, .int a3, .int a4, .int a5, .int a6, .int a7, .int a8, .int a9, .int a10, .int a11]))], rfl, ⟨ef.symm, rfl⟩, by rw [ht]; exact hP9, va_K.moved hW.alike hK9, hD9⟩, hS.F ht⟩) hS.2.2 dX0_statusOfWrongMode_84
end
section
set_option maxHeartbeats 4000000 in
set_option maxRecDepth 100000 in
theorem ct_X0_statusOfLength (l : Launch) (dC : Nat → ClassId) (dI : Nat → Nat → Nat) (h0 : Nat) (sz : Nat) (a0 a1 a2 a3 a4 a5 a6 a7 a8 a9 a10 a11 p0 : Int32) : Met l yX0_statusOfLength wsX0_statusOfLength ({ frames := 1, cells := 0, slots := 0, locals := 20 }) (va_Pc [.ref h0, .int p0] (fun U => U.heap.size = sz ∧ va_P (dC, dI) vwCl [(h0, .inr (0, [.int a0, .int a1, .int a2, .int a3, .int a4, .int a5, .int a6, .int a7, .int a8, .int a9, .int a10, .int a11]))] U.heap ∧ va_K (dC, dI) vwCl [] U ∧ va_D (fun _ => True) [(h0, .inr (0, [.int a0, .int a1, .int a2, .int a3, .int a4, .int a5, .int a6, .int a7, .int a8, .int a9, .int a10, .int a11]))])) (va_Qi (fun (r : Int32) (u : va_W) => r = fx_X0_statusOfLength p0 ∧ u = [(h0, .inr (0, [.int a0, .int a1, .int a2, .int a3, .int a4, .int a5, .int a6, .int a7, .int a8, .int a9, .int a10, .int a11]))]) (at_W dC dI (va_A [(h0, .inr (0, [.int a0, .int a1, .int a2, .int a3, .int a4, .int a5, .int a6, .int a7, .int a8, .int a9, .int a10, .int a11]))] sz)) (va_A [(h0, .inr (0, [.int a0, .int a1, .int a2, .int a3, .int a4, .int a5, .int a6, .int a7, .int a8, .int a9, .int a10, .int a11]))] sz)) 0 0 (va_A [(h0, .inr (0, [.int a0, .int a1, .int a2, .int a3, .int a4, .int a5, .int a6, .int a7, .int a8, .int a9, .int a10, .int a11]))] sz) := by
  refine Met.ofW (cc := cX0_statusOfLength) (maxL := 2) (ret := (some .int)) (by decide) rfl ?_
  intro p e s m args below meth c s₁ B hml hv
  obtain ⟨rfl, hsz, hP, hK, hD0⟩ := hv
  have hx := B.exec
  have hb := B.bytes
  have hr := B.returns
  have hts := atoms_spec (ws := wsX0_statusOfLength) B.pre
  have hown : s.vm.findClass RX0 = some m.cls := findClass_of_methodNamed B.named
  have hlocks := B.notSynchronized
  subst hsz
  have hD := hD0.self (sz := s.heap.size)
  generalize hAe : va_A [(h0, .inr (0, [.int a0, .int a1, .int a2, .int a3, .int a4, .int a5, .int a6, .int a7, .int a8, .int a9, .int a10, .int a11]))] s.heap.size = A at hD ⊢
  have hA : ∀ q : Nat, s.heap.size ≤ q → A q := fun q h => by rw [← hAe]; exact Or.inr h
  have hS : va_S A s.heap s.heap [] := va_S.rf
  have hP : va_P (dC, dI) vwCl [(h0, .inr (0, [.int a0, .int a1, .int a2, .int a3, .int a4, .int a5, .int a6, .int a7, .int a8, .int a9, .int a10, .int a11]))] s.heap := hP
  have hl := lv_entry ([.ref h0, .int p0]) (n := 2) (Nat.le_of_ble_eq_true rfl)
  rw [lg_entry_eq]
  generalize (lg_sl ([.ref h0, .int p0]) ++ List.replicate (2 - (lg_sl ([.ref h0, .int p0])).length) Slot.unset).toArray = ls at hl ⊢
  have hl : lv_has ls 2 [(0, .ref h0), (1, .int p0)] := hl
  refine lv_iload_n hx hb dX0_statusOfLength_0 rfl (lv_at hl 1 rfl) ?_
  have hPc := hP.sub (ws' := []) [] rfl
  have hDc := hD.sub (ws' := []) [] (by decide) rfl
  have hKc := hK.sub (tys' := []) [] rfl
  have hFc := va_free (wc := []) hD hS hA [] rfl
  refine va_calli (va_runS (As := [.int p0]) (rest := []) ⟨hx, hb, hml, hown, hts⟩ (ct_X0_isRead l dC dI s.heap.size p0) (va_cwS 1 hts gX0_statusOfLength_X0_isRead rfl rfl rfl (by decide +kernel) ⟨Nat.le_of_ble_eq_true rfl, Nat.le_of_ble_eq_true rfl⟩) ⟨fun a U g mk q => by obtain ⟨q0, q1, qP, qK, qD⟩ := q; exact ⟨q0, q1, qP, va_K.moved (u := U) (U := U.calling g mk a) (Vm.Alike.refl U.vm) qK, qD⟩, fun U hU hW => ⟨rfl, by rw [hU], by rw [hU]; exact hPc, va_K.moved hW.alike hKc, hDc.weaken (fun _ _ _ _ => trivial)⟩⟩ rfl rfl hl.1 rfl (lv_room (Nat.le_of_ble_eq_true rfl)) dX0_statusOfLength_1 ⟨(Nat.zero_le _), (Nat.zero_le _)⟩) hS (fun q _ h => hFc q h) hFc (fun r_1 u t H1 locs ht hvm hw hB hz1 hk1 hS => ?_)
  obtain ⟨er, hu⟩ := hw
  subst hu
  subst er
  obtain ⟨hP1, hK1, hD1⟩ := hB
  rw [ht] at hP1
  have hK1 := va_K.moved hvm.symm hK1
  obtain ⟨hP, hD⟩ := va_join (wr := [(h0, .inr (0, [.int a0, .int a1, .int a2, .int a3, .int a4, .int a5, .int a6, .int a7, .int a8, .int a9, .int a10, .int a11]))]) (w1 := []) hP hD [] [0] rfl rfl (by decide) (by decide) hk1 hFc hP1 hD1
  have hK := (hK.sub (tys' := []) [] rfl).app hK1
  generalize H1 = H at hP hS ⊢
  have hP : va_P (dC, dI) vwCl [(h0, .inr (0, [.int a0, .int a1, .int a2, .int a3, .int a4, .int a5, .int a6, .int a7, .int a8, .int a9, .int a10, .int a11]))] H := hP
  have hD : va_D A [(h0, .inr (0, [.int a0, .int a1, .int a2, .int a3, .int a4, .int a5, .int a6, .int a7, .int a8, .int a9, .int a10, .int a11]))] := hD
  have hK : va_K (dC, dI) vwCl [] s := hK
  refine lv_if_eq (tgt := 9) hx hb dX0_statusOfLength_4 (by decide) (fun c_2 => ?_) (fun c_2 => ?_)
  · refine lv_iload_n hx hb dX0_statusOfLength_9 rfl (lv_at hl 1 rfl) ?_
    have hPc := hP.sub (ws' := []) [] rfl
    have hDc := hD.sub (ws' := []) [] (by decide) rfl
    have hKc := hK.sub (tys' := []) [] rfl
    have hFc := va_free (wc := []) hD hS hA [] rfl
    refine va_calli (va_runS (As := [.int p0]) (rest := []) ⟨hx, hb, hml, hown, hts⟩ (ct_X0_isWriteOrRewrite l dC dI H.size p0) (va_cwS 1 hts gX0_statusOfLength_X0_isWriteOrRewrite rfl rfl rfl (by decide +kernel) ⟨Nat.le_of_ble_eq_true rfl, Nat.le_of_ble_eq_true rfl⟩) ⟨fun a U g mk q => by obtain ⟨q0, q1, qP, qK, qD⟩ := q; exact ⟨q0, q1, qP, va_K.moved (u := U) (U := U.calling g mk a) (Vm.Alike.refl U.vm) qK, qD⟩, fun U hU hW => ⟨rfl, by rw [hU], by rw [hU]; exact hPc, va_K.moved hW.alike hKc, hDc.weaken (fun _ _ _ _ => trivial)⟩⟩ rfl rfl hl.1 rfl (lv_room (Nat.le_of_ble_eq_true rfl)) dX0_statusOfLength_10 ⟨(Nat.zero_le _), (Nat.zero_le _)⟩) hS (fun q _ h => hFc q h) hFc (fun r_3 u t H1 locs ht hvm hw hB hz1 hk1 hS => ?_)
    obtain ⟨er, hu⟩ := hw
    subst hu
    subst er
    obtain ⟨hP1, hK1, hD1⟩ := hB
    rw [ht] at hP1
    have hK1 := va_K.moved hvm.symm hK1
    obtain ⟨hP, hD⟩ := va_join (wr := [(h0, .inr (0, [.int a0, .int a1, .int a2, .int a3, .int a4, .int a5, .int a6, .int a7, .int a8, .int a9, .int a10, .int a11]))]) (w1 := []) hP hD [] [0] rfl rfl (by decide) (by decide) hk1 hFc hP1 hD1
    have hK := (hK.sub (tys' := []) [] rfl).app hK1
    generalize H1 = H at hP hS ⊢
    have hP : va_P (dC, dI) vwCl [(h0, .inr (0, [.int a0, .int a1, .int a2, .int a3, .int a4, .int a5, .int a6, .int a7, .int a8, .int a9, .int a10, .int a11]))] H := hP
    have hD : va_D A [(h0, .inr (0, [.int a0, .int a1, .int a2, .int a3, .int a4, .int a5, .int a6, .int a7, .int a8, .int a9, .int a10, .int a11]))] := hD
    have hK : va_K (dC, dI) vwCl [] s := hK
    refine lv_if_eq (tgt := 21) hx hb dX0_statusOfLength_13 (by decide) (fun c_4 => ?_) (fun c_4 => ?_)
    · refine lv_bipush (v := 90) hx hb dX0_statusOfLength_21 (by decide) ?_
      have hP9 := hP.sub (ws' := [(h0, .inr (0, [.int a0, .int a1, .int a2, .int a3, .int a4, .int a5, .int a6, .int a7, .int a8, .int a9, .int a10, .int a11]))]) [0] rfl
      have hD9 := hD.sub (ws' := [(h0, .inr (0, [.int a0, .int a1, .int a2, .int a3, .int a4, .int a5, .int a6, .int a7, .int a8, .int a9, .int a10, .int a11]))]) [0] (by decide) rfl
      have hK9 := hK.sub (tys' := []) [] rfl
      have ef : fx_X0_statusOfLength p0 = 90 := by unfold fx_X0_statusOfLength; rw [if_pos c_2, if_pos c_4]
      exact W.iret (v := 90) hx hb hr (fun t ht hW => ⟨⟨90, [(h0, .inr (0, [.int a0, .int a1, .int a2, .int a3, .int a4, .int a5, .int a6, .int a7, .int a8, .int a9, .int a10, .int a11]))], rfl, ⟨ef.symm, rfl⟩, by rw [ht]; exact hP9, va_K.moved hW.alike hK9, hD9⟩, hS.F ht⟩) hS.2.2 dX0_statusOfLength_23
    refine lv_bipush (v := 44) hx hb dX0_statusOfLength_16 (by decide) ?_
    refine lv_goto (tgt := 23) hx hb dX0_statusOfLength_18 (by decide) ?_
    have hP9 := hP.sub (ws' := [(h0, .inr (0, [.int a0, .int a1, .int a2, .int a3, .int a4, .int a5, .int a6, .int a7, .int a8, .int a9, .int a10, .int a11]))]) [0] rfl
    have hD9 := hD.sub (ws' := [(h0, .inr (0, [.int a0, .int a1, .int a2, .int a3, .int a4, .int a5, .int a6, .int a7, .int a8, .int a9, .int a10, .int a11]))]) [0] (by decide) rfl
    have hK9 := hK.sub (tys' := []) [] rfl
    have ef : fx_X0_statusOfLength p0 = 44 := by unfold fx_X0_statusOfLength; rw [if_pos c_2, if_neg c_4]
    exact W.iret (v := 44) hx hb hr (fun t ht hW => ⟨⟨44, [(h0, .inr (0, [.int a0, .int a1, .int a2, .int a3, .int a4, .int a5, .int a6, .int a7, .int a8, .int a9, .int a10, .int a11]))], rfl, ⟨ef.symm, rfl⟩, by rw [ht]; exact hP9, va_K.moved hW.alike hK9, hD9⟩, hS.F ht⟩) hS.2.2 dX0_statusOfLength_23
  refine lv_iconst (v := 4) hx hb dX0_statusOfLength_7 (by decide) ?_
  have hP9 := hP.sub (ws' := [(h0, .inr (0, [.int a0, .int a1, .int a2, .int a3, .int a4, .int a5, .int a6, .int a7, .int a8, .int a9, .int a10, .int a11]))]) [0] rfl
  have hD9 := hD.sub (ws' := [(h0, .inr (0, [.int a0, .int a1, .int a2, .int a3, .int a4, .int a5, .int a6, .int a7, .int a8, .int a9, .int a10, .int a11]))]) [0] (by decide) rfl
  have hK9 := hK.sub (tys' := []) [] rfl
  have ef : fx_X0_statusOfLength p0 = 4 := by unfold fx_X0_statusOfLength; rw [if_neg c_2]
  exact W.iret (v := 4) hx hb hr (fun t ht hW => ⟨⟨4, [(h0, .inr (0, [.int a0, .int a1, .int a2, .int a3, .int a4, .int a5, .int a6, .int a7, .int a8, .int a9, .int a10, .int a11]))], rfl, ⟨ef.symm, rfl⟩, by rw [ht]; exact hP9, va_K.moved hW.alike hK9, hD9⟩, hS.F ht⟩) hS.2.2 dX0_statusOfLength_8
set_option maxHeartbeats 4000000 in
set_option maxRecDepth 100000 in
theorem ct_X0_placeAfter (l : Launch) (dC : Nat → ClassId) (dI : Nat → Nat → Nat) (sz : Nat) (p0 p1 : Int32) : Met l yX0_placeAfter wsX0_placeAfter ({ frames := 1, cells := 0, slots := 0, locals := 20 }) (va_Pc [.int p0, .int p1] (fun U => U.heap.size = sz ∧ va_P (dC, dI) vwCl [] U.heap ∧ va_K (dC, dI) vwCl [] U ∧ va_D (fun _ => True) [])) (va_Qi (fun (r : Int32) (u : va_W) => r = fx_X0_placeAfter p0 p1 ∧ u = []) (at_W dC dI (va_A [] sz)) (va_A [] sz)) 0 0 (va_A [] sz) := by
  refine Met.ofW (cc := cX0_placeAfter) (maxL := 2) (ret := (some .int)) (by decide) rfl ?_
  intro p e s m args below meth c s₁ B hml hv
  obtain ⟨rfl, hsz, hP, hK, hD0⟩ := hv
  have hx := B.exec
  have hb := B.bytes
  have hr := B.returns
  have hts := atoms_spec (ws := wsX0_placeAfter) B.pre
  have hown : s.vm.findClass RX0 = some m.cls := findClass_of_methodNamed B.named
  have hlocks := B.notSynchronized
  subst hsz
  have hD := hD0.self (sz := s.heap.size)
  generalize hAe : va_A [] s.heap.size = A at hD ⊢
  have hA : ∀ q : Nat, s.heap.size ≤ q → A q := fun q h => by rw [← hAe]; exact Or.inr h
  have hS : va_S A s.heap s.heap [] := va_S.rf
  have hP : va_P (dC, dI) vwCl [] s.heap := hP
  have hl := lv_entry ([.int p0, .int p1]) (n := 2) (Nat.le_of_ble_eq_true rfl)
  rw [lg_entry_eq]
  generalize (lg_sl ([.int p0, .int p1]) ++ List.replicate (2 - (lg_sl ([.int p0, .int p1])).length) Slot.unset).toArray = ls at hl ⊢
  have hl : lv_has ls 2 [(0, .int p0), (1, .int p1)] := hl
  refine lv_iload_n hx hb dX0_placeAfter_0 rfl (lv_at hl 0 rfl) ?_
  have hPc := hP.sub (ws' := []) [] rfl
  have hDc := hD.sub (ws' := []) [] (by decide) rfl
  have hKc := hK.sub (tys' := []) [] rfl
  have hFc := va_free (wc := []) hD hS hA [] rfl
  refine va_calli (va_runS (As := [.int p0]) (rest := []) ⟨hx, hb, hml, hown, hts⟩ (ct_X0_givesPlace l dC dI s.heap.size p0) (va_cwS 1 hts gX0_placeAfter_X0_givesPlace rfl rfl rfl (by decide +kernel) ⟨Nat.le_of_ble_eq_true rfl, Nat.le_of_ble_eq_true rfl⟩) ⟨fun a U g mk q => by obtain ⟨q0, q1, qP, qK, qD⟩ := q; exact ⟨q0, q1, qP, va_K.moved (u := U) (U := U.calling g mk a) (Vm.Alike.refl U.vm) qK, qD⟩, fun U hU hW => ⟨rfl, by rw [hU], by rw [hU]; exact hPc, va_K.moved hW.alike hKc, hDc.weaken (fun _ _ _ _ => trivial)⟩⟩ rfl rfl hl.1 rfl (lv_room (Nat.le_of_ble_eq_true rfl)) dX0_placeAfter_1 ⟨(Nat.zero_le _), (Nat.zero_le _)⟩) hS (fun q _ h => hFc q h) hFc (fun r_1 u t H1 locs ht hvm hw hB hz1 hk1 hS => ?_)
  obtain ⟨er, hu⟩ := hw
  subst hu
  subst er
  obtain ⟨hP1, hK1, hD1⟩ := hB
  rw [ht] at hP1
  have hK1 := va_K.moved hvm.symm hK1
  obtain ⟨hP, hD⟩ := va_join (wr := []) (w1 := []) hP hD [] [] rfl rfl (by decide) (by decide) hk1 hFc hP1 hD1
  have hK := (hK.sub (tys' := []) [] rfl).app hK1
  generalize H1 = H at hP hS ⊢
  have hP : va_P (dC, dI) vwCl [] H := hP
  have hD : va_D A [] := hD
  have hK : va_K (dC, dI) vwCl [] s := hK
  refine lv_if_eq (tgt := 9) hx hb dX0_placeAfter_4 (by decide) (fun c_2 => ?_) (fun c_2 => ?_)
  · refine lv_iload_n hx hb dX0_placeAfter_9 rfl (lv_at hl 0 rfl) ?_
    by_cases c_3 : p0 = 10
    · refine lv_lookup (off := 42) (tgt := 52) hx hb dX0_placeAfter_10 (by decide) (by rw [c_3]; rfl) (by decide) ?_
      refine lv_iconst (v := 2) hx hb dX0_placeAfter_52 (by decide) ?_
      have hP9 := hP.sub (ws' := []) [] rfl
      have hD9 := hD.sub (ws' := []) [] (by decide) rfl
      have hK9 := hK.sub (tys' := []) [] rfl
      have ef : fx_X0_placeAfter p0 p1 = 2 := by unfold fx_X0_placeAfter; rw [if_pos c_2, if_pos c_3]
      exact W.iret (v := 2) hx hb hr (fun t ht hW => ⟨⟨2, [], rfl, ⟨ef.symm, rfl⟩, by rw [ht]; exact hP9, va_K.moved hW.alike hK9, hD9⟩, hS.F ht⟩) hS.2.2 dX0_placeAfter_53
    by_cases c_4 : p0 = 14
    · refine lv_lookup (off := 44) (tgt := 54) hx hb dX0_placeAfter_10 (by decide) (by rw [c_4]; rfl) (by decide) ?_
      refine lv_iconst (v := 3) hx hb dX0_placeAfter_54 (by decide) ?_
      have hP9 := hP.sub (ws' := []) [] rfl
      have hD9 := hD.sub (ws' := []) [] (by decide) rfl
      have hK9 := hK.sub (tys' := []) [] rfl
      have ef : fx_X0_placeAfter p0 p1 = 3 := by unfold fx_X0_placeAfter; rw [if_pos c_2, if_neg c_3, if_pos c_4]
      exact W.iret (v := 3) hx hb hr (fun t ht hW => ⟨⟨3, [], rfl, ⟨ef.symm, rfl⟩, by rw [ht]; exact hP9, va_K.moved hW.alike hK9, hD9⟩, hS.F ht⟩) hS.2.2 dX0_placeAfter_55
    by_cases c_5 : p0 = 23
    · refine lv_lookup (off := 44) (tgt := 54) hx hb dX0_placeAfter_10 (by decide) (by rw [c_5]; rfl) (by decide) ?_
      refine lv_iconst (v := 3) hx hb dX0_placeAfter_54 (by decide) ?_
      have hP9 := hP.sub (ws' := []) [] rfl
      have hD9 := hD.sub (ws' := []) [] (by decide) rfl
      have hK9 := hK.sub (tys' := []) [] rfl
      have ef : fx_X0_placeAfter p0 p1 = 3 := by unfold fx_X0_placeAfter; rw [if_pos c_2, if_neg c_3, if_neg c_4, if_pos c_5]
      exact W.iret (v := 3) hx hb hr (fun t ht hW => ⟨⟨3, [], rfl, ⟨ef.symm, rfl⟩, by rw [ht]; exact hP9, va_K.moved hW.alike hK9, hD9⟩, hS.F ht⟩) hS.2.2 dX0_placeAfter_55
    by_cases c_6 : p0 = 46
    · refine lv_lookup (off := 44) (tgt := 54) hx hb dX0_placeAfter_10 (by decide) (by rw [c_6]; rfl) (by decide) ?_
      refine lv_iconst (v := 3) hx hb dX0_placeAfter_54 (by decide) ?_
      have hP9 := hP.sub (ws' := []) [] rfl
      have hD9 := hD.sub (ws' := []) [] (by decide) rfl
      have hK9 := hK.sub (tys' := []) [] rfl
      have ef : fx_X0_placeAfter p0 p1 = 3 := by unfold fx_X0_placeAfter; rw [if_pos c_2, if_neg c_3, if_neg c_4, if_neg c_5, if_pos c_6]
      exact W.iret (v := 3) hx hb hr (fun t ht hW => ⟨⟨3, [], rfl, ⟨ef.symm, rfl⟩, by rw [ht]; exact hP9, va_K.moved hW.alike hK9, hD9⟩, hS.F ht⟩) hS.2.2 dX0_placeAfter_55
    refine lv_lookup (off := 46) (tgt := 56) hx hb dX0_placeAfter_10 (by decide) (xx_lk ⟨(xx_ne c_3 (by decide)).symm, (xx_ne c_4 (by decide)).symm, (xx_ne c_5 (by decide)).symm, (xx_ne c_6 (by decide)).symm, trivial⟩) (by decide) ?_
    refine lv_iload_n hx hb dX0_placeAfter_56 rfl (lv_at hl 1 rfl) ?_
    have hP9 := hP.sub (ws' := []) [] rfl
    have hD9 := hD.sub (ws' := []) [] (by decide) rfl
    have hK9 := hK.sub (tys' := []) [] rfl
    have ef : fx_X0_placeAfter p0 p1 = p1 := by unfold fx_X0_placeAfter; rw [if_pos c_2, if_neg c_3, if_neg c_4, if_neg c_5, if_neg c_6]
    exact W.iret (v := p1) hx hb hr (fun t ht hW => ⟨⟨p1, [], rfl, ⟨ef.symm, rfl⟩, by rw [ht]; exact hP9, va_K.moved hW.alike hK9, hD9⟩, hS.F ht⟩) hS.2.2 dX0_placeAfter_57
  refine lv_iconst (v := 1) hx hb dX0_placeAfter_7 (by decide) ?_
  have hP9 := hP.sub (ws' := []) [] rfl
  have hD9 := hD.sub (ws' := []) [] (by decide) rfl
  have hK9 := hK.sub (tys' := []) [] rfl
  have ef : fx_X0_placeAfter p0 p1 = 1 := by unfold fx_X0_placeAfter; rw [if_neg c_2]
  exact W.iret (v := 1) hx hb hr (fun t ht hW => ⟨⟨1, [], rfl, ⟨ef.symm, rfl⟩, by rw [ht]; exact hP9, va_K.moved hW.alike hK9, hD9⟩, hS.F ht⟩) hS.2.2 dX0_placeAfter_8
set_option maxHeartbeats 4000000 in
set_option maxRecDepth 100000 in
theorem ct_X0_open (l : Launch) (dC : Nat → ClassId) (dI : Nat → Nat → Nat) (h0 : Nat) (sz : Nat) (a0 a1 a2 a3 a4 a5 a6 a7 a8 a9 a10 a11 p0 : Int32) : Met l yX0_open wsX0_open ({ frames := 2, cells := 0, slots := 0, locals := 41 }) (va_Pc [.ref h0, .int p0] (fun U => U.heap.size = sz ∧ va_P (dC, dI) vwCl [(h0, .inr (0, [.int a0, .int a1, .int a2, .int a3, .int a4, .int a5, .int a6, .int a7, .int a8, .int a9, .int a10, .int a11]))] U.heap ∧ va_K (dC, dI) vwCl [] U ∧ va_D (fun _ => True) [(h0, .inr (0, [.int a0, .int a1, .int a2, .int a3, .int a4, .int a5, .int a6, .int a7, .int a8, .int a9, .int a10, .int a11]))])) (va_Qi (fun (r : Int32) (u : va_W) => r = fx_X0_open a1 a2 a3 p0 ∧ u = [(h0, .inr (0, [.int a0, .int a1, .int (gx_X0_open_2 a1 a2 a3 p0), .int a3, .int (gx_X0_open_4 a1 a2 a3 a4 p0), .int (gx_X0_open_5 a1 a2 a3 a5 p0), .int gx_X0_open_6, .int (gx_X0_open_7 a1 a2 a3 p0), .int gx_X0_open_8, .int a9, .int (gx_X0_open_10 a1 a2 a3 a10 p0), .int (gx_X0_open_11 a1 a2 a3 a11 p0)]))]) (at_W dC dI (va_A [(h0, .inr (0, [.int a0, .int a1, .int a2, .int a3, .int a4, .int a5, .int a6, .int a7, .int a8, .int a9, .int a10, .int a11]))] sz)) (va_A [(h0, .inr (0, [.int a0, .int a1, .int a2, .int a3, .int a4, .int a5, .int a6, .int a7, .int a8, .int a9, .int a10, .int a11]))] sz)) 0 0 (va_A [(h0, .inr (0, [.int a0, .int a1, .int a2, .int a3, .int a4, .int a5, .int a6, .int a7, .int a8, .int a9, .int a10, .int a11]))] sz) := by
  refine Met.ofW (cc := cX0_open) (maxL := 3) (ret := (some .int)) (by decide) rfl ?_
  intro p e s m args below meth c s₁ B hml hv
  obtain ⟨rfl, hsz, hP, hK, hD0⟩ := hv
  have hx := B.exec
  have hb := B.bytes
  have hr := B.returns
  have hts := atoms_spec (ws := wsX0_open) B.pre
  have hown : s.vm.findClass RX0 = some m.cls := findClass_of_methodNamed B.named
  have hlocks := B.notSynchronized
  subst hsz
  have hD := hD0.self (sz := s.heap.size)
  generalize hAe : va_A [(h0, .inr (0, [.int a0, .int a1, .int a2, .int a3, .int a4, .int a5, .int a6, .int a7, .int a8, .int a9, .int a10, .int a11]))] s.heap.size = A at hD ⊢
  have hA : ∀ q : Nat, s.heap.size ≤ q → A q := fun q h => by rw [← hAe]; exact Or.inr h
  have hS : va_S A s.heap s.heap [] := va_S.rf
  have hP : va_P (dC, dI) vwCl [(h0, .inr (0, [.int a0, .int a1, .int a2, .int a3, .int a4, .int a5, .int a6, .int a7, .int a8, .int a9, .int a10, .int a11]))] s.heap := hP
  have hl := lv_entry ([.ref h0, .int p0]) (n := 3) (Nat.le_of_ble_eq_true rfl)
  rw [lg_entry_eq]
  generalize (lg_sl ([.ref h0, .int p0]) ++ List.replicate (3 - (lg_sl ([.ref h0, .int p0])).length) Slot.unset).toArray = ls at hl ⊢
  have hl : lv_has ls 3 [(0, .ref h0), (1, .int p0)] := hl
  refine lv_aload_n hx hb dX0_open_0 rfl (lv_at hl 0 rfl) ?_
  refine lv_iload_n hx hb dX0_open_1 rfl (lv_at hl 1 rfl) ?_
  have hPc := hP.sub (ws' := [(h0, .inr (0, [.int a0, .int a1, .int a2, .int a3, .int a4, .int a5, .int a6, .int a7, .int a8, .int a9, .int a10, .int a11]))]) [0] rfl
  have hDc := hD.sub (ws' := [(h0, .inr (0, [.int a0, .int a1, .int a2, .int a3, .int a4, .int a5, .int a6, .int a7, .int a8, .int a9, .int a10, .int a11]))]) [0] (by decide) rfl
  have hKc := hK.sub (tys' := []) [] rfl
  have hFc := va_free (wc := [(h0, .inr (0, [.int a0, .int a1, .int a2, .int a3, .int a4, .int a5, .int a6, .int a7, .int a8, .int a9, .int a10, .int a11]))]) hD hS hA [0] rfl
  refine va_calli (va_runV (As := [.int p0]) (rest := []) ⟨hx, hb, hml, hown, hts⟩ (ct_X0_statusOfOpening l dC dI h0 s.heap.size a0 a1 a2 a3 a4 a5 a6 a7 a8 a9 a10 a11 p0) (cwV 1 hts gX0_open_X0_statusOfOpening rfl rfl rfl (by decide +kernel) ⟨Nat.le_of_ble_eq_true rfl, Nat.le_of_ble_eq_true rfl⟩) ⟨fun a U g mk q => by obtain ⟨q0, q1, qP, qK, qD⟩ := q; exact ⟨q0, q1, qP, va_K.moved (u := U) (U := U.calling g mk a) (Vm.Alike.refl U.vm) qK, qD⟩, va_recv hKc hPc (ci := 0) (q0 := 0) rfl rfl, fun U hU hW => ⟨rfl, by rw [hU], by rw [hU]; exact hPc, va_K.moved hW.alike hKc, hDc.weaken (fun _ _ _ _ => trivial)⟩⟩ rfl rfl hl.1 rfl (lv_room (Nat.le_of_ble_eq_true rfl)) dX0_open_2 ⟨(Nat.zero_le _), (Nat.zero_le _)⟩) hS (fun q _ h => hFc q h) hFc (fun r_1 u t H1 locs ht hvm hw hB hz1 hk1 hS => ?_)
  obtain ⟨er, hu⟩ := hw
  subst hu
  subst er
  obtain ⟨hP1, hK1, hD1⟩ := hB
  rw [ht] at hP1
  have hK1 := va_K.moved hvm.symm hK1
  obtain ⟨hP, hD⟩ := va_join (wr := []) (w1 := [(h0, .inr (0, [.int a0, .int a1, .int a2, .int a3, .int a4, .int a5, .int a6, .int a7, .int a8, .int a9, .int a10, .int a11]))]) hP hD [0] [] rfl rfl (by decide) (by decide) hk1 hFc hP1 hD1
  have hK := (hK.sub (tys' := []) [] rfl).app hK1
  generalize H1 = H at hP hS ⊢
  have hP : va_P (dC, dI) vwCl [(h0, .inr (0, [.int a0, .int a1, .int a2, .int a3, .int a4, .int a5, .int a6, .int a7, .int a8, .int a9, .int a10, .int a11]))] H := hP
  have hD : va_D A [(h0, .inr (0, [.int a0, .int a1, .int a2, .int a3, .int a4, .int a5, .int a6, .int a7, .int a8, .int a9, .int a10, .int a11]))] := hD
  have hK : va_K (dC, dI) vwCl [] s := hK
  refine lv_istore_n (lv' := [(2, .int (fx_X0_statusOfOpening a1 a2 a3 p0)), (0, .ref h0), (1, .int p0)]) hx hb dX0_open_5 rfl hl (by decide) rfl (fun ls hl => ?_)
  refine lv_iload_n hx hb dX0_open_6 rfl (lv_at hl 0 rfl) ?_
  refine lv_if_eq (tgt := 15) hx hb dX0_open_7 (by decide) (fun c_2 => ?_) (fun c_2 => ?_)
  · refine lv_aload_n hx hb dX0_open_15 rfl (lv_at hl 1 rfl) ?_
    refine lv_iconst (v := 1) hx hb dX0_open_16 (by decide) ?_
    refine va_put (D := (dC, dI)) (ci := 0) (v := .int 1) (ty := .boolean) (C := RX0) (T := TX0) (N := 12) hx hb hts (fun _ h => List.mem_cons_of_mem _ (List.mem_append_right _ h)) tyX0 tyX0_ok nmX0 hown hK hP hD hS 0 rfl rfl 2 (by decide) (hts (.fieldLink RX0 13 "FileStatus" "isOpen" "Z") (by decide +kernel)) (fun _ h9 => h9) rfl (by decide +kernel) rfl rfl (Nat.le_of_ble_eq_true rfl) dX0_open_17 (fun H locs hP hD hS => ?_)
    have hP : va_P (dC, dI) vwCl [(h0, .inr (0, [.int a0, .int a1, .int 1, .int a3, .int a4, .int a5, .int a6, .int a7, .int a8, .int a9, .int a10, .int a11]))] H := hP
    have hD : va_D A [(h0, .inr (0, [.int a0, .int a1, .int 1, .int a3, .int a4, .int a5, .int a6, .int a7, .int a8, .int a9, .int a10, .int a11]))] := hD
    refine lv_aload_n hx hb dX0_open_20 rfl (lv_at hl 1 rfl) ?_
    refine lv_iconst (v := 0) hx hb dX0_open_21 (by decide) ?_
    refine va_put (D := (dC, dI)) (ci := 0) (v := .int 0) (ty := .int) (C := RX0) (T := TX0) (N := 12) hx hb hts (fun _ h => List.mem_cons_of_mem _ (List.mem_append_right _ h)) tyX0 tyX0_ok nmX0 hown hK hP hD hS 0 rfl rfl 4 (by decide) (hts (.fieldLink RX0 20 "FileStatus" "place" "I") (by decide +kernel)) (fun _ h9 => h9) rfl (by decide +kernel) rfl rfl (Nat.le_of_ble_eq_true rfl) dX0_open_22 (fun H locs hP hD hS => ?_)
    have hP : va_P (dC, dI) vwCl [(h0, .inr (0, [.int a0, .int a1, .int 1, .int a3, .int 0, .int a5, .int a6, .int a7, .int a8, .int a9, .int a10, .int a11]))] H := hP
    have hD : va_D A [(h0, .inr (0, [.int a0, .int a1, .int 1, .int a3, .int 0, .int a5, .int a6, .int a7, .int a8, .int a9, .int a10, .int a11]))] := hD
    refine lv_aload_n hx hb dX0_open_25 rfl (lv_at hl 1 rfl) ?_
    refine lv_iload_n hx hb dX0_open_26 rfl (lv_at hl 0 rfl) ?_
    refine lv_iconst (v := 5) hx hb dX0_open_27 (by decide) ?_
    refine lv_icmp_ne (tgt := 42) hx hb dX0_open_28 (by decide) (fun c9 => ?_) (fun c9 => absurd (c_2.symm.trans c9) (by decide))
    refine lv_iconst (v := 0) hx hb dX0_open_42 (by decide) ?_
    refine va_put (D := (dC, dI)) (ci := 0) (v := .int 0) (ty := .boolean) (C := RX0) (T := TX0) (N := 12) hx hb hts (fun _ h => List.mem_cons_of_mem _ (List.mem_append_right _ h)) tyX0 tyX0_ok nmX0 hown hK hP hD hS 0 rfl rfl 5 (by decide) (hts (.fieldLink RX0 23 "FileStatus" "endIsNext" "Z") (by decide +kernel)) (fun _ h9 => h9) rfl (by decide +kernel) rfl rfl (Nat.le_of_ble_eq_true rfl) dX0_open_43 (fun H locs hP hD hS => ?_)
    have hP : va_P (dC, dI) vwCl [(h0, .inr (0, [.int a0, .int a1, .int 1, .int a3, .int 0, .int 0, .int a6, .int a7, .int a8, .int a9, .int a10, .int a11]))] H := hP
    have hD : va_D A [(h0, .inr (0, [.int a0, .int a1, .int 1, .int a3, .int 0, .int 0, .int a6, .int a7, .int a8, .int a9, .int a10, .int a11]))] := hD
    refine lv_aload_n hx hb dX0_open_46 rfl (lv_at hl 1 rfl) ?_
    refine lv_iconst (v := 0) hx hb dX0_open_47 (by decide) ?_
    refine va_put (D := (dC, dI)) (ci := 0) (v := .int 0) (ty := .boolean) (C := RX0) (T := TX0) (N := 12) hx hb hts (fun _ h => List.mem_cons_of_mem _ (List.mem_append_right _ h)) tyX0 tyX0_ok nmX0 hown hK hP hD hS 0 rfl rfl 6 (by decide) (hts (.fieldLink RX0 26 "FileStatus" "permit" "Z") (by decide +kernel)) (fun _ h9 => h9) rfl (by decide +kernel) rfl rfl (Nat.le_of_ble_eq_true rfl) dX0_open_48 (fun H locs hP hD hS => ?_)
    have hP : va_P (dC, dI) vwCl [(h0, .inr (0, [.int a0, .int a1, .int 1, .int a3, .int 0, .int 0, .int 0, .int a7, .int a8, .int a9, .int a10, .int a11]))] H := hP
    have hD : va_D A [(h0, .inr (0, [.int a0, .int a1, .int 1, .int a3, .int 0, .int 0, .int 0, .int a7, .int a8, .int a9, .int a10, .int a11]))] := hD
    refine lv_aload_n hx hb dX0_open_51 rfl (lv_at hl 1 rfl) ?_
    refine lv_bipush (v := 7) hx hb dX0_open_52 (by decide) ?_
    refine lv_iload_n hx hb dX0_open_54 rfl (lv_at hl 0 rfl) ?_
    have hPc := hP.sub (ws' := [(h0, .inr (0, [.int a0, .int a1, .int 1, .int a3, .int 0, .int 0, .int 0, .int a7, .int a8, .int a9, .int a10, .int a11]))]) [0] rfl
    have hDc := hD.sub (ws' := [(h0, .inr (0, [.int a0, .int a1, .int 1, .int a3, .int 0, .int 0, .int 0, .int a7, .int a8, .int a9, .int a10, .int a11]))]) [0] (by decide) rfl
    have hKc := hK.sub (tys' := []) [] rfl
    have hFc := va_free (wc := [(h0, .inr (0, [.int a0, .int a1, .int 1, .int a3, .int 0, .int 0, .int 0, .int a7, .int a8, .int a9, .int a10, .int a11]))]) hD hS hA [0] rfl
    refine va_callv (va_runV (As := [.int 7, .int (fx_X0_statusOfOpening a1 a2 a3 p0)]) (rest := []) ⟨hx, hb, hml, hown, hts⟩ (ct_X0_remember l dC dI h0 H.size a0 a1 1 a3 0 0 0 a7 a8 a9 a10 a11 7 (fx_X0_statusOfOpening a1 a2 a3 p0)) (cwV 2 hts gX0_open_X0_remember rfl rfl rfl (by decide +kernel) ⟨Nat.le_of_ble_eq_true rfl, Nat.le_of_ble_eq_true rfl⟩) ⟨fun a U g mk q => by obtain ⟨q0, q1, qP, qK, qD⟩ := q; exact ⟨q0, q1, qP, va_K.moved (u := U) (U := U.calling g mk a) (Vm.Alike.refl U.vm) qK, qD⟩, va_recv hKc hPc (ci := 0) (q0 := 0) rfl rfl, fun U hU hW => ⟨rfl, by rw [hU], by rw [hU]; exact hPc, va_K.moved hW.alike hKc, hDc.weaken (fun _ _ _ _ => trivial)⟩⟩ rfl rfl hl.1 rfl (lv_room (Nat.le_of_ble_eq_true rfl)) dX0_open_55 ⟨(Nat.zero_le _), (Nat.zero_le _)⟩) hS (fun q _ h => hFc q h) hFc (fun u t H1 locs ht hvm hw hB hz1 hk1 hS => ?_)
    subst hw
    obtain ⟨hP1, hK1, hD1⟩ := hB
    rw [ht] at hP1
    have hK1 := va_K.moved hvm.symm hK1
    obtain ⟨hP, hD⟩ := va_join (wr := []) (w1 := [(h0, .inr (0, [.int a0, .int a1, .int 1, .int a3, .int 0, .int 0, .int 0, .int (gx_X0_remember_7 (fx_X0_statusOfOpening a1 a2 a3 p0)), .int (gx_X0_remember_8 7), .int a9, .int (gx_X0_remember_10 a10 7 (fx_X0_statusOfOpening a1 a2 a3 p0)), .int (gx_X0_remember_11 a11 (fx_X0_statusOfOpening a1 a2 a3 p0))]))]) hP hD [0] [] rfl rfl (by decide) (by decide) hk1 hFc hP1 hD1
    have hK := (hK.sub (tys' := []) [] rfl).app hK1
    generalize H1 = H at hP hS ⊢
    have hP : va_P (dC, dI) vwCl [(h0, .inr (0, [.int a0, .int a1, .int 1, .int a3, .int 0, .int 0, .int 0, .int (gx_X0_remember_7 (fx_X0_statusOfOpening a1 a2 a3 p0)), .int (gx_X0_remember_8 7), .int a9, .int (gx_X0_remember_10 a10 7 (fx_X0_statusOfOpening a1 a2 a3 p0)), .int (gx_X0_remember_11 a11 (fx_X0_statusOfOpening a1 a2 a3 p0))]))] H := hP
    have hD : va_D A [(h0, .inr (0, [.int a0, .int a1, .int 1, .int a3, .int 0, .int 0, .int 0, .int (gx_X0_remember_7 (fx_X0_statusOfOpening a1 a2 a3 p0)), .int (gx_X0_remember_8 7), .int a9, .int (gx_X0_remember_10 a10 7 (fx_X0_statusOfOpening a1 a2 a3 p0)), .int (gx_X0_remember_11 a11 (fx_X0_statusOfOpening a1 a2 a3 p0))]))] := hD
    have hK : va_K (dC, dI) vwCl [] s := hK
    refine lv_iload_n hx hb dX0_open_58 rfl (lv_at hl 0 rfl) ?_
    have hP9 := hP.sub (ws' := [(h0, .inr (0, [.int a0, .int a1, .int 1, .int a3, .int 0, .int 0, .int 0, .int (gx_X0_remember_7 (fx_X0_statusOfOpening a1 a2 a3 p0)), .int (gx_X0_remember_8 7), .int a9, .int (gx_X0_remember_10 a10 7 (fx_X0_statusOfOpening a1 a2 a3 p0)), .int (gx_X0_remember_11 a11 (fx_X0_statusOfOpening a1 a2 a3 p0))]))]) [0] rfl
    have hD9 := hD.sub (ws' := [(h0, .inr (0, [.int a0, .int a1, .int 1, .int a3, .int 0, .int 0, .int 0, .int (gx_X0_remember_7 (fx_X0_statusOfOpening a1 a2 a3 p0)), .int (gx_X0_remember_8 7), .int a9, .int (gx_X0_remember_10 a10 7 (fx_X0_statusOfOpening a1 a2 a3 p0)), .int (gx_X0_remember_11 a11 (fx_X0_statusOfOpening a1 a2 a3 p0))]))]) [0] (by decide) rfl
    have hK9 := hK.sub (tys' := []) [] rfl
    have eg_2 : gx_X0_open_2 a1 a2 a3 p0 = 1 := by unfold gx_X0_open_2; rw [if_pos c_2]
    have eg_4 : gx_X0_open_4 a1 a2 a3 a4 p0 = 0 := by unfold gx_X0_open_4; rw [if_pos c_2]
    have eg_5 : gx_X0_open_5 a1 a2 a3 a5 p0 = 0 := by unfold gx_X0_open_5; rw [if_pos c_2]
    have eg_6 : gx_X0_open_6 = 0 := by rfl
    have eg_7 : gx_X0_open_7 a1 a2 a3 p0 = gx_X0_remember_7 (fx_X0_statusOfOpening a1 a2 a3 p0) := by rfl
    have eg_8 : gx_X0_open_8 = gx_X0_remember_8 7 := by rfl
    have eg_10 : gx_X0_open_10 a1 a2 a3 a10 p0 = gx_X0_remember_10 a10 7 (fx_X0_statusOfOpening a1 a2 a3 p0) := by rfl
    have eg_11 : gx_X0_open_11 a1 a2 a3 a11 p0 = gx_X0_remember_11 a11 (fx_X0_statusOfOpening a1 a2 a3 p0) := by rfl
    have ef : fx_X0_open a1 a2 a3 p0 = fx_X0_statusOfOpening a1 a2 a3 p0 := by rfl
    exact W.iret (v := fx_X0_statusOfOpening a1 a2 a3 p0) hx hb hr (fun t ht hW => ⟨⟨(fx_X0_statusOfOpening a1 a2 a3 p0), [(h0, .inr (0, [.int a0, .int a1, .int 1, .int a3, .int 0, .int 0, .int 0, .int (gx_X0_remember_7 (fx_X0_statusOfOpening a1 a2 a3 p0)), .int (gx_X0_remember_8 7), .int a9, .int (gx_X0_remember_10 a10 7 (fx_X0_statusOfOpening a1 a2 a3 p0)), .int (gx_X0_remember_11 a11 (fx_X0_statusOfOpening a1 a2 a3 p0))]))], rfl, ⟨ef.symm, by rw [eg_2, eg_4, eg_5, eg_6, eg_7, eg_8, eg_10, eg_11]⟩, by rw [ht]; exact hP9, va_K.moved hW.alike hK9, hD9⟩, hS.F ht⟩) hS.2.2 dX0_open_59
  refine lv_iload_n hx hb dX0_open_10 rfl (lv_at hl 0 rfl) ?_
  refine lv_iconst (v := 5) hx hb dX0_open_11 (by decide) ?_
  refine lv_icmp_ne (tgt := 46) hx hb dX0_open_12 (by decide) (fun c_4 => ?_) (fun c_4 => ?_)
  · refine lv_aload_n hx hb dX0_open_46 rfl (lv_at hl 1 rfl) ?_
    refine lv_iconst (v := 0) hx hb dX0_open_47 (by decide) ?_
    refine va_put (D := (dC, dI)) (ci := 0) (v := .int 0) (ty := .boolean) (C := RX0) (T := TX0) (N := 12) hx hb hts (fun _ h => List.mem_cons_of_mem _ (List.mem_append_right _ h)) tyX0 tyX0_ok nmX0 hown hK hP hD hS 0 rfl rfl 6 (by decide) (hts (.fieldLink RX0 26 "FileStatus" "permit" "Z") (by decide +kernel)) (fun _ h9 => h9) rfl (by decide +kernel) rfl rfl (Nat.le_of_ble_eq_true rfl) dX0_open_48 (fun H locs hP hD hS => ?_)
    have hP : va_P (dC, dI) vwCl [(h0, .inr (0, [.int a0, .int a1, .int a2, .int a3, .int a4, .int a5, .int 0, .int a7, .int a8, .int a9, .int a10, .int a11]))] H := hP
    have hD : va_D A [(h0, .inr (0, [.int a0, .int a1, .int a2, .int a3, .int a4, .int a5, .int 0, .int a7, .int a8, .int a9, .int a10, .int a11]))] := hD
    refine lv_aload_n hx hb dX0_open_51 rfl (lv_at hl 1 rfl) ?_
    refine lv_bipush (v := 7) hx hb dX0_open_52 (by decide) ?_
    refine lv_iload_n hx hb dX0_open_54 rfl (lv_at hl 0 rfl) ?_
    have hPc := hP.sub (ws' := [(h0, .inr (0, [.int a0, .int a1, .int a2, .int a3, .int a4, .int a5, .int 0, .int a7, .int a8, .int a9, .int a10, .int a11]))]) [0] rfl
    have hDc := hD.sub (ws' := [(h0, .inr (0, [.int a0, .int a1, .int a2, .int a3, .int a4, .int a5, .int 0, .int a7, .int a8, .int a9, .int a10, .int a11]))]) [0] (by decide) rfl
    have hKc := hK.sub (tys' := []) [] rfl
    have hFc := va_free (wc := [(h0, .inr (0, [.int a0, .int a1, .int a2, .int a3, .int a4, .int a5, .int 0, .int a7, .int a8, .int a9, .int a10, .int a11]))]) hD hS hA [0] rfl
    refine va_callv (va_runV (As := [.int 7, .int (fx_X0_statusOfOpening a1 a2 a3 p0)]) (rest := []) ⟨hx, hb, hml, hown, hts⟩ (ct_X0_remember l dC dI h0 H.size a0 a1 a2 a3 a4 a5 0 a7 a8 a9 a10 a11 7 (fx_X0_statusOfOpening a1 a2 a3 p0)) (cwV 2 hts gX0_open_X0_remember rfl rfl rfl (by decide +kernel) ⟨Nat.le_of_ble_eq_true rfl, Nat.le_of_ble_eq_true rfl⟩) ⟨fun a U g mk q => by obtain ⟨q0, q1, qP, qK, qD⟩ := q; exact ⟨q0, q1, qP, va_K.moved (u := U) (U := U.calling g mk a) (Vm.Alike.refl U.vm) qK, qD⟩, va_recv hKc hPc (ci := 0) (q0 := 0) rfl rfl, fun U hU hW => ⟨rfl, by rw [hU], by rw [hU]; exact hPc, va_K.moved hW.alike hKc, hDc.weaken (fun _ _ _ _ => trivial)⟩⟩ rfl rfl hl.1 rfl (lv_room (Nat.le_of_ble_eq_true rfl)) dX0_open_55 ⟨(Nat.zero_le _), (Nat.zero_le _)⟩) hS (fun q _ h => hFc q h) hFc (fun u t H1 locs ht hvm hw hB hz1 hk1 hS => ?_)
    subst hw
    obtain ⟨hP1, hK1, hD1⟩ := hB
    rw [ht] at hP1
    have hK1 := va_K.moved hvm.symm hK1
    obtain ⟨hP, hD⟩ := va_join (wr := []) (w1 := [(h0, .inr (0, [.int a0, .int a1, .int a2, .int a3, .int a4, .int a5, .int 0, .int (gx_X0_remember_7 (fx_X0_statusOfOpening a1 a2 a3 p0)), .int (gx_X0_remember_8 7), .int a9, .int (gx_X0_remember_10 a10 7 (fx_X0_statusOfOpening a1 a2 a3 p0)), .int (gx_X0_remember_11 a11 (fx_X0_statusOfOpening a1 a2 a3 p0))]))]) hP hD [0] [] rfl rfl (by decide) (by decide) hk1 hFc hP1 hD1
    have hK := (hK.sub (tys' := []) [] rfl).app hK1
    generalize H1 = H at hP hS ⊢
    have hP : va_P (dC, dI) vwCl [(h0, .inr (0, [.int a0, .int a1, .int a2, .int a3, .int a4, .int a5, .int 0, .int (gx_X0_remember_7 (fx_X0_statusOfOpening a1 a2 a3 p0)), .int (gx_X0_remember_8 7), .int a9, .int (gx_X0_remember_10 a10 7 (fx_X0_statusOfOpening a1 a2 a3 p0)), .int (gx_X0_remember_11 a11 (fx_X0_statusOfOpening a1 a2 a3 p0))]))] H := hP
    have hD : va_D A [(h0, .inr (0, [.int a0, .int a1, .int a2, .int a3, .int a4, .int a5, .int 0, .int (gx_X0_remember_7 (fx_X0_statusOfOpening a1 a2 a3 p0)), .int (gx_X0_remember_8 7), .int a9, .int (gx_X0_remember_10 a10 7 (fx_X0_statusOfOpening a1 a2 a3 p0)), .int (gx_X0_remember_11 a11 (fx_X0_statusOfOpening a1 a2 a3 p0))]))] := hD
    have hK : va_K (dC, dI) vwCl [] s := hK
    refine lv_iload_n hx hb dX0_open_58 rfl (lv_at hl 0 rfl) ?_
    have hP9 := hP.sub (ws' := [(h0, .inr (0, [.int a0, .int a1, .int a2, .int a3, .int a4, .int a5, .int 0, .int (gx_X0_remember_7 (fx_X0_statusOfOpening a1 a2 a3 p0)), .int (gx_X0_remember_8 7), .int a9, .int (gx_X0_remember_10 a10 7 (fx_X0_statusOfOpening a1 a2 a3 p0)), .int (gx_X0_remember_11 a11 (fx_X0_statusOfOpening a1 a2 a3 p0))]))]) [0] rfl
    have hD9 := hD.sub (ws' := [(h0, .inr (0, [.int a0, .int a1, .int a2, .int a3, .int a4, .int a5, .int 0, .int (gx_X0_remember_7 (fx_X0_statusOfOpening a1 a2 a3 p0)), .int (gx_X0_remember_8 7), .int a9, .int (gx_X0_remember_10 a10 7 (fx_X0_statusOfOpening a1 a2 a3 p0)), .int (gx_X0_remember_11 a11 (fx_X0_statusOfOpening a1 a2 a3 p0))]))]) [0] (by decide) rfl
    have hK9 := hK.sub (tys' := []) [] rfl
    have eg_2 : gx_X0_open_2 a1 a2 a3 p0 = a2 := by unfold gx_X0_open_2; rw [if_neg c_2, if_neg c_4]
    have eg_4 : gx_X0_open_4 a1 a2 a3 a4 p0 = a4 := by unfold gx_X0_open_4; rw [if_neg c_2, if_neg c_4]
    have eg_5 : gx_X0_open_5 a1 a2 a3 a5 p0 = a5 := by unfold gx_X0_open_5; rw [if_neg c_2, if_neg c_4]
    have eg_6 : gx_X0_open_6 = 0 := by rfl
    have eg_7 : gx_X0_open_7 a1 a2 a3 p0 = gx_X0_remember_7 (fx_X0_statusOfOpening a1 a2 a3 p0) := by rfl
    have eg_8 : gx_X0_open_8 = gx_X0_remember_8 7 := by rfl
    have eg_10 : gx_X0_open_10 a1 a2 a3 a10 p0 = gx_X0_remember_10 a10 7 (fx_X0_statusOfOpening a1 a2 a3 p0) := by rfl
    have eg_11 : gx_X0_open_11 a1 a2 a3 a11 p0 = gx_X0_remember_11 a11 (fx_X0_statusOfOpening a1 a2 a3 p0) := by rfl
    have ef : fx_X0_open a1 a2 a3 p0 = fx_X0_statusOfOpening a1 a2 a3 p0 := by rfl
    exact W.iret (v := fx_X0_statusOfOpening a1 a2 a3 p0) hx hb hr (fun t ht hW => ⟨⟨(fx_X0_statusOfOpening a1 a2 a3 p0), [(h0, .inr (0, [.int a0, .int a1, .int a2, .int a3, .int a4, .int a5, .int 0, .int (gx_X0_remember_7 (fx_X0_statusOfOpening a1 a2 a3 p0)), .int (gx_X0_remember_8 7), .int a9, .int (gx_X0_remember_10 a10 7 (fx_X0_statusOfOpening a1 a2 a3 p0)), .int (gx_X0_remember_11 a11 (fx_X0_statusOfOpening a1 a2 a3 p0))]))], rfl, ⟨ef.symm, by rw [eg_2, eg_4, eg_5, eg_6, eg_7, eg_8, eg_10, eg_11]⟩, by rw [ht]; exact hP9, va_K.moved hW.alike hK9, hD9⟩, hS.F ht⟩) hS.2.2 dX0_open_59
  refine lv_aload_n hx hb dX0_open_15 rfl (lv_at hl 1 rfl) ?_
  refine lv_iconst (v := 1) hx hb dX0_open_16 (by decide) ?_
  refine va_put (D := (dC, dI)) (ci := 0) (v := .int 1) (ty := .boolean) (C := RX0) (T := TX0) (N := 12) hx hb hts (fun _ h => List.mem_cons_of_mem _ (List.mem_append_right _ h)) tyX0 tyX0_ok nmX0 hown hK hP hD hS 0 rfl rfl 2 (by decide) (hts (.fieldLink RX0 13 "FileStatus" "isOpen" "Z") (by decide +kernel)) (fun _ h9 => h9) rfl (by decide +kernel) rfl rfl (Nat.le_of_ble_eq_true rfl) dX0_open_17 (fun H locs hP hD hS => ?_)
  have hP : va_P (dC, dI) vwCl [(h0, .inr (0, [.int a0, .int a1, .int 1, .int a3, .int a4, .int a5, .int a6, .int a7, .int a8, .int a9, .int a10, .int a11]))] H := hP
  have hD : va_D A [(h0, .inr (0, [.int a0, .int a1, .int 1, .int a3, .int a4, .int a5, .int a6, .int a7, .int a8, .int a9, .int a10, .int a11]))] := hD
  refine lv_aload_n hx hb dX0_open_20 rfl (lv_at hl 1 rfl) ?_
  refine lv_iconst (v := 0) hx hb dX0_open_21 (by decide) ?_
  refine va_put (D := (dC, dI)) (ci := 0) (v := .int 0) (ty := .int) (C := RX0) (T := TX0) (N := 12) hx hb hts (fun _ h => List.mem_cons_of_mem _ (List.mem_append_right _ h)) tyX0 tyX0_ok nmX0 hown hK hP hD hS 0 rfl rfl 4 (by decide) (hts (.fieldLink RX0 20 "FileStatus" "place" "I") (by decide +kernel)) (fun _ h9 => h9) rfl (by decide +kernel) rfl rfl (Nat.le_of_ble_eq_true rfl) dX0_open_22 (fun H locs hP hD hS => ?_)
  have hP : va_P (dC, dI) vwCl [(h0, .inr (0, [.int a0, .int a1, .int 1, .int a3, .int 0, .int a5, .int a6, .int a7, .int a8, .int a9, .int a10, .int a11]))] H := hP
  have hD : va_D A [(h0, .inr (0, [.int a0, .int a1, .int 1, .int a3, .int 0, .int a5, .int a6, .int a7, .int a8, .int a9, .int a10, .int a11]))] := hD
  refine lv_aload_n hx hb dX0_open_25 rfl (lv_at hl 1 rfl) ?_
  refine lv_iload_n hx hb dX0_open_26 rfl (lv_at hl 0 rfl) ?_
  refine lv_iconst (v := 5) hx hb dX0_open_27 (by decide) ?_
  refine lv_icmp_ne (tgt := 42) hx hb dX0_open_28 (by decide) (fun c9 => absurd c_4 c9) (fun c9 => ?_)
  refine lv_aload_n hx hb dX0_open_31 rfl (lv_at hl 1 rfl) ?_
  have hPc := hP.sub (ws' := [(h0, .inr (0, [.int a0, .int a1, .int 1, .int a3, .int 0, .int a5, .int a6, .int a7, .int a8, .int a9, .int a10, .int a11]))]) [0] rfl
  have hDc := hD.sub (ws' := [(h0, .inr (0, [.int a0, .int a1, .int 1, .int a3, .int 0, .int a5, .int a6, .int a7, .int a8, .int a9, .int a10, .int a11]))]) [0] (by decide) rfl
  have hKc := hK.sub (tys' := []) [] rfl
  have hFc := va_free (wc := [(h0, .inr (0, [.int a0, .int a1, .int 1, .int a3, .int 0, .int a5, .int a6, .int a7, .int a8, .int a9, .int a10, .int a11]))]) hD hS hA [0] rfl
  refine va_calli (va_runV (As := []) (rest := [.ref h0]) ⟨hx, hb, hml, hown, hts⟩ (ct_X0_isForReading l dC dI h0 H.size a0 a1 1 a3 0 a5 a6 a7 a8 a9 a10 a11) (cwV 0 hts gX0_open_X0_isForReading rfl rfl rfl (by decide +kernel) ⟨Nat.le_of_ble_eq_true rfl, Nat.le_of_ble_eq_true rfl⟩) ⟨fun a U g mk q => by obtain ⟨q0, q1, qP, qK, qD⟩ := q; exact ⟨q0, q1, qP, va_K.moved (u := U) (U := U.calling g mk a) (Vm.Alike.refl U.vm) qK, qD⟩, va_recv hKc hPc (ci := 0) (q0 := 0) rfl rfl, fun U hU hW => ⟨rfl, by rw [hU], by rw [hU]; exact hPc, va_K.moved hW.alike hKc, hDc.weaken (fun _ _ _ _ => trivial)⟩⟩ rfl rfl hl.1 rfl (lv_room (Nat.le_of_ble_eq_true rfl)) dX0_open_32 ⟨(Nat.zero_le _), (Nat.zero_le _)⟩) hS (fun q _ h => hFc q h) hFc (fun r_6 u t H1 locs ht hvm hw hB hz1 hk1 hS => ?_)
  obtain ⟨er, hu⟩ := hw
  subst hu
  subst er
  obtain ⟨hP1, hK1, hD1⟩ := hB
  rw [ht] at hP1
  have hK1 := va_K.moved hvm.symm hK1
  obtain ⟨hP, hD⟩ := va_join (wr := []) (w1 := [(h0, .inr (0, [.int a0, .int a1, .int 1, .int a3, .int 0, .int a5, .int a6, .int a7, .int a8, .int a9, .int a10, .int a11]))]) hP hD [0] [] rfl rfl (by decide) (by decide) hk1 hFc hP1 hD1
  have hK := (hK.sub (tys' := []) [] rfl).app hK1
  generalize H1 = H at hP hS ⊢
  have hP : va_P (dC, dI) vwCl [(h0, .inr (0, [.int a0, .int a1, .int 1, .int a3, .int 0, .int a5, .int a6, .int a7, .int a8, .int a9, .int a10, .int a11]))] H := hP
  have hD : va_D A [(h0, .inr (0, [.int a0, .int a1, .int 1, .int a3, .int 0, .int a5, .int a6, .int a7, .int a8, .int a9, .int a10, .int a11]))] := hD
  have hK : va_K (dC, dI) vwCl [] s := hK
  refine lv_if_eq (tgt := 42) hx hb dX0_open_35 (by decide) (fun c_7 => ?_) (fun c_7 => ?_)
  · refine lv_iconst (v := 0) hx hb dX0_open_42 (by decide) ?_
    refine va_put (D := (dC, dI)) (ci := 0) (v := .int 0) (ty := .boolean) (C := RX0) (T := TX0) (N := 12) hx hb hts (fun _ h => List.mem_cons_of_mem _ (List.mem_append_right _ h)) tyX0 tyX0_ok nmX0 hown hK hP hD hS 0 rfl rfl 5 (by decide) (hts (.fieldLink RX0 23 "FileStatus" "endIsNext" "Z") (by decide +kernel)) (fun _ h9 => h9) rfl (by decide +kernel) rfl rfl (Nat.le_of_ble_eq_true rfl) dX0_open_43 (fun H locs hP hD hS => ?_)
    have hP : va_P (dC, dI) vwCl [(h0, .inr (0, [.int a0, .int a1, .int 1, .int a3, .int 0, .int 0, .int a6, .int a7, .int a8, .int a9, .int a10, .int a11]))] H := hP
    have hD : va_D A [(h0, .inr (0, [.int a0, .int a1, .int 1, .int a3, .int 0, .int 0, .int a6, .int a7, .int a8, .int a9, .int a10, .int a11]))] := hD
    refine lv_aload_n hx hb dX0_open_46 rfl (lv_at hl 1 rfl) ?_
    refine lv_iconst (v := 0) hx hb dX0_open_47 (by decide) ?_
    refine va_put (D := (dC, dI)) (ci := 0) (v := .int 0) (ty := .boolean) (C := RX0) (T := TX0) (N := 12) hx hb hts (fun _ h => List.mem_cons_of_mem _ (List.mem_append_right _ h)) tyX0 tyX0_ok nmX0 hown hK hP hD hS 0 rfl rfl 6 (by decide) (hts (.fieldLink RX0 26 "FileStatus" "permit" "Z") (by decide +kernel)) (fun _ h9 => h9) rfl (by decide +kernel) rfl rfl (Nat.le_of_ble_eq_true rfl) dX0_open_48 (fun H locs hP hD hS => ?_)
    have hP : va_P (dC, dI) vwCl [(h0, .inr (0, [.int a0, .int a1, .int 1, .int a3, .int 0, .int 0, .int 0, .int a7, .int a8, .int a9, .int a10, .int a11]))] H := hP
    have hD : va_D A [(h0, .inr (0, [.int a0, .int a1, .int 1, .int a3, .int 0, .int 0, .int 0, .int a7, .int a8, .int a9, .int a10, .int a11]))] := hD
    refine lv_aload_n hx hb dX0_open_51 rfl (lv_at hl 1 rfl) ?_
    refine lv_bipush (v := 7) hx hb dX0_open_52 (by decide) ?_
    refine lv_iload_n hx hb dX0_open_54 rfl (lv_at hl 0 rfl) ?_
    have hPc := hP.sub (ws' := [(h0, .inr (0, [.int a0, .int a1, .int 1, .int a3, .int 0, .int 0, .int 0, .int a7, .int a8, .int a9, .int a10, .int a11]))]) [0] rfl
    have hDc := hD.sub (ws' := [(h0, .inr (0, [.int a0, .int a1, .int 1, .int a3, .int 0, .int 0, .int 0, .int a7, .int a8, .int a9, .int a10, .int a11]))]) [0] (by decide) rfl
    have hKc := hK.sub (tys' := []) [] rfl
    have hFc := va_free (wc := [(h0, .inr (0, [.int a0, .int a1, .int 1, .int a3, .int 0, .int 0, .int 0, .int a7, .int a8, .int a9, .int a10, .int a11]))]) hD hS hA [0] rfl
    refine va_callv (va_runV (As := [.int 7, .int (fx_X0_statusOfOpening a1 a2 a3 p0)]) (rest := []) ⟨hx, hb, hml, hown, hts⟩ (ct_X0_remember l dC dI h0 H.size a0 a1 1 a3 0 0 0 a7 a8 a9 a10 a11 7 (fx_X0_statusOfOpening a1 a2 a3 p0)) (cwV 2 hts gX0_open_X0_remember rfl rfl rfl (by decide +kernel) ⟨Nat.le_of_ble_eq_true rfl, Nat.le_of_ble_eq_true rfl⟩) ⟨fun a U g mk q => by obtain ⟨q0, q1, qP, qK, qD⟩ := q; exact ⟨q0, q1, qP, va_K.moved (u := U) (U := U.calling g mk a) (Vm.Alike.refl U.vm) qK, qD⟩, va_recv hKc hPc (ci := 0) (q0 := 0) rfl rfl, fun U hU hW => ⟨rfl, by rw [hU], by rw [hU]; exact hPc, va_K.moved hW.alike hKc, hDc.weaken (fun _ _ _ _ => trivial)⟩⟩ rfl rfl hl.1 rfl (lv_room (Nat.le_of_ble_eq_true rfl)) dX0_open_55 ⟨(Nat.zero_le _), (Nat.zero_le _)⟩) hS (fun q _ h => hFc q h) hFc (fun u t H1 locs ht hvm hw hB hz1 hk1 hS => ?_)
    subst hw
    obtain ⟨hP1, hK1, hD1⟩ := hB
    rw [ht] at hP1
    have hK1 := va_K.moved hvm.symm hK1
    obtain ⟨hP, hD⟩ := va_join (wr := []) (w1 := [(h0, .inr (0, [.int a0, .int a1, .int 1, .int a3, .int 0, .int 0, .int 0, .int (gx_X0_remember_7 (fx_X0_statusOfOpening a1 a2 a3 p0)), .int (gx_X0_remember_8 7), .int a9, .int (gx_X0_remember_10 a10 7 (fx_X0_statusOfOpening a1 a2 a3 p0)), .int (gx_X0_remember_11 a11 (fx_X0_statusOfOpening a1 a2 a3 p0))]))]) hP hD [0] [] rfl rfl (by decide) (by decide) hk1 hFc hP1 hD1
    have hK := (hK.sub (tys' := []) [] rfl).app hK1
    generalize H1 = H at hP hS ⊢
    have hP : va_P (dC, dI) vwCl [(h0, .inr (0, [.int a0, .int a1, .int 1, .int a3, .int 0, .int 0, .int 0, .int (gx_X0_remember_7 (fx_X0_statusOfOpening a1 a2 a3 p0)), .int (gx_X0_remember_8 7), .int a9, .int (gx_X0_remember_10 a10 7 (fx_X0_statusOfOpening a1 a2 a3 p0)), .int (gx_X0_remember_11 a11 (fx_X0_statusOfOpening a1 a2 a3 p0))]))] H := hP
    have hD : va_D A [(h0, .inr (0, [.int a0, .int a1, .int 1, .int a3, .int 0, .int 0, .int 0, .int (gx_X0_remember_7 (fx_X0_statusOfOpening a1 a2 a3 p0)), .int (gx_X0_remember_8 7), .int a9, .int (gx_X0_remember_10 a10 7 (fx_X0_statusOfOpening a1 a2 a3 p0)), .int (gx_X0_remember_11 a11 (fx_X0_statusOfOpening a1 a2 a3 p0))]))] := hD
    have hK : va_K (dC, dI) vwCl [] s := hK
    refine lv_iload_n hx hb dX0_open_58 rfl (lv_at hl 0 rfl) ?_
    have hP9 := hP.sub (ws' := [(h0, .inr (0, [.int a0, .int a1, .int 1, .int a3, .int 0, .int 0, .int 0, .int (gx_X0_remember_7 (fx_X0_statusOfOpening a1 a2 a3 p0)), .int (gx_X0_remember_8 7), .int a9, .int (gx_X0_remember_10 a10 7 (fx_X0_statusOfOpening a1 a2 a3 p0)), .int (gx_X0_remember_11 a11 (fx_X0_statusOfOpening a1 a2 a3 p0))]))]) [0] rfl
    have hD9 := hD.sub (ws' := [(h0, .inr (0, [.int a0, .int a1, .int 1, .int a3, .int 0, .int 0, .int 0, .int (gx_X0_remember_7 (fx_X0_statusOfOpening a1 a2 a3 p0)), .int (gx_X0_remember_8 7), .int a9, .int (gx_X0_remember_10 a10 7 (fx_X0_statusOfOpening a1 a2 a3 p0)), .int (gx_X0_remember_11 a11 (fx_X0_statusOfOpening a1 a2 a3 p0))]))]) [0] (by decide) rfl
    have hK9 := hK.sub (tys' := []) [] rfl
    have eg_2 : gx_X0_open_2 a1 a2 a3 p0 = 1 := by unfold gx_X0_open_2; rw [if_neg c_2, if_pos c_4]
    have eg_4 : gx_X0_open_4 a1 a2 a3 a4 p0 = 0 := by unfold gx_X0_open_4; rw [if_neg c_2, if_pos c_4]
    have eg_5 : gx_X0_open_5 a1 a2 a3 a5 p0 = 0 := by unfold gx_X0_open_5; rw [if_neg c_2, if_pos c_4, if_pos c_7]
    have eg_6 : gx_X0_open_6 = 0 := by rfl
    have eg_7 : gx_X0_open_7 a1 a2 a3 p0 = gx_X0_remember_7 (fx_X0_statusOfOpening a1 a2 a3 p0) := by rfl
    have eg_8 : gx_X0_open_8 = gx_X0_remember_8 7 := by rfl
    have eg_10 : gx_X0_open_10 a1 a2 a3 a10 p0 = gx_X0_remember_10 a10 7 (fx_X0_statusOfOpening a1 a2 a3 p0) := by rfl
    have eg_11 : gx_X0_open_11 a1 a2 a3 a11 p0 = gx_X0_remember_11 a11 (fx_X0_statusOfOpening a1 a2 a3 p0) := by rfl
    have ef : fx_X0_open a1 a2 a3 p0 = fx_X0_statusOfOpening a1 a2 a3 p0 := by rfl
    exact W.iret (v := fx_X0_statusOfOpening a1 a2 a3 p0) hx hb hr (fun t ht hW => ⟨⟨(fx_X0_statusOfOpening a1 a2 a3 p0), [(h0, .inr (0, [.int a0, .int a1, .int 1, .int a3, .int 0, .int 0, .int 0, .int (gx_X0_remember_7 (fx_X0_statusOfOpening a1 a2 a3 p0)), .int (gx_X0_remember_8 7), .int a9, .int (gx_X0_remember_10 a10 7 (fx_X0_statusOfOpening a1 a2 a3 p0)), .int (gx_X0_remember_11 a11 (fx_X0_statusOfOpening a1 a2 a3 p0))]))], rfl, ⟨ef.symm, by rw [eg_2, eg_4, eg_5, eg_6, eg_7, eg_8, eg_10, eg_11]⟩, by rw [ht]; exact hP9, va_K.moved hW.alike hK9, hD9⟩, hS.F ht⟩) hS.2.2 dX0_open_59
  refine lv_iconst (v := 1) hx hb dX0_open_38 (by decide) ?_
  refine lv_goto (tgt := 43) hx hb dX0_open_39 (by decide) ?_
  refine va_put (D := (dC, dI)) (ci := 0) (v := .int 1) (ty := .boolean) (C := RX0) (T := TX0) (N := 12) hx hb hts (fun _ h => List.mem_cons_of_mem _ (List.mem_append_right _ h)) tyX0 tyX0_ok nmX0 hown hK hP hD hS 0 rfl rfl 5 (by decide) (hts (.fieldLink RX0 23 "FileStatus" "endIsNext" "Z") (by decide +kernel)) (fun _ h9 => h9) rfl (by decide +kernel) rfl rfl (Nat.le_of_ble_eq_true rfl) dX0_open_43 (fun H locs hP hD hS => ?_)
  have hP : va_P (dC, dI) vwCl [(h0, .inr (0, [.int a0, .int a1, .int 1, .int a3, .int 0, .int 1, .int a6, .int a7, .int a8, .int a9, .int a10, .int a11]))] H := hP
  have hD : va_D A [(h0, .inr (0, [.int a0, .int a1, .int 1, .int a3, .int 0, .int 1, .int a6, .int a7, .int a8, .int a9, .int a10, .int a11]))] := hD
  refine lv_aload_n hx hb dX0_open_46 rfl (lv_at hl 1 rfl) ?_
  refine lv_iconst (v := 0) hx hb dX0_open_47 (by decide) ?_
  refine va_put (D := (dC, dI)) (ci := 0) (v := .int 0) (ty := .boolean) (C := RX0) (T := TX0) (N := 12) hx hb hts (fun _ h => List.mem_cons_of_mem _ (List.mem_append_right _ h)) tyX0 tyX0_ok nmX0 hown hK hP hD hS 0 rfl rfl 6 (by decide) (hts (.fieldLink RX0 26 "FileStatus" "permit" "Z") (by decide +kernel)) (fun _ h9 => h9) rfl (by decide +kernel) rfl rfl (Nat.le_of_ble_eq_true rfl) dX0_open_48 (fun H locs hP hD hS => ?_)
  have hP : va_P (dC, dI) vwCl [(h0, .inr (0, [.int a0, .int a1, .int 1, .int a3, .int 0, .int 1, .int 0, .int a7, .int a8, .int a9, .int a10, .int a11]))] H := hP
  have hD : va_D A [(h0, .inr (0, [.int a0, .int a1, .int 1, .int a3, .int 0, .int 1, .int 0, .int a7, .int a8, .int a9, .int a10, .int a11]))] := hD
  refine lv_aload_n hx hb dX0_open_51 rfl (lv_at hl 1 rfl) ?_
  refine lv_bipush (v := 7) hx hb dX0_open_52 (by decide) ?_
  refine lv_iload_n hx hb dX0_open_54 rfl (lv_at hl 0 rfl) ?_
  have hPc := hP.sub (ws' := [(h0, .inr (0, [.int a0, .int a1, .int 1, .int a3, .int 0, .int 1, .int 0, .int a7, .int a8, .int a9, .int a10, .int a11]))]) [0] rfl
  have hDc := hD.sub (ws' := [(h0, .inr (0, [.int a0, .int a1, .int 1, .int a3, .int 0, .int 1, .int 0, .int a7, .int a8, .int a9, .int a10, .int a11]))]) [0] (by decide) rfl
  have hKc := hK.sub (tys' := []) [] rfl
  have hFc := va_free (wc := [(h0, .inr (0, [.int a0, .int a1, .int 1, .int a3, .int 0, .int 1, .int 0, .int a7, .int a8, .int a9, .int a10, .int a11]))]) hD hS hA [0] rfl
  refine va_callv (va_runV (As := [.int 7, .int (fx_X0_statusOfOpening a1 a2 a3 p0)]) (rest := []) ⟨hx, hb, hml, hown, hts⟩ (ct_X0_remember l dC dI h0 H.size a0 a1 1 a3 0 1 0 a7 a8 a9 a10 a11 7 (fx_X0_statusOfOpening a1 a2 a3 p0)) (cwV 2 hts gX0_open_X0_remember rfl rfl rfl (by decide +kernel) ⟨Nat.le_of_ble_eq_true rfl, Nat.le_of_ble_eq_true rfl⟩) ⟨fun a U g mk q => by obtain ⟨q0, q1, qP, qK, qD⟩ := q; exact ⟨q0, q1, qP, va_K.moved (u := U) (U := U.calling g mk a) (Vm.Alike.refl U.vm) qK, qD⟩, va_recv hKc hPc (ci := 0) (q0 := 0) rfl rfl, fun U hU hW => ⟨rfl, by rw [hU], by rw [hU]; exact hPc, va_K.moved hW.alike hKc, hDc.weaken (fun _ _ _ _ => trivial)⟩⟩ rfl rfl hl.1 rfl (lv_room (Nat.le_of_ble_eq_true rfl)) dX0_open_55 ⟨(Nat.zero_le _), (Nat.zero_le _)⟩) hS (fun q _ h => hFc q h) hFc (fun u t H1 locs ht hvm hw hB hz1 hk1 hS => ?_)
  subst hw
  obtain ⟨hP1, hK1, hD1⟩ := hB
  rw [ht] at hP1
  have hK1 := va_K.moved hvm.symm hK1
  obtain ⟨hP, hD⟩ := va_join (wr := []) (w1 := [(h0, .inr (0, [.int a0, .int a1, .int 1, .int a3, .int 0, .int 1, .int 0, .int (gx_X0_remember_7 (fx_X0_statusOfOpening a1 a2 a3 p0)), .int (gx_X0_remember_8 7), .int a9, .int (gx_X0_remember_10 a10 7 (fx_X0_statusOfOpening a1 a2 a3 p0)), .int (gx_X0_remember_11 a11 (fx_X0_statusOfOpening a1 a2 a3 p0))]))]) hP hD [0] [] rfl rfl (by decide) (by decide) hk1 hFc hP1 hD1
  have hK := (hK.sub (tys' := []) [] rfl).app hK1
  generalize H1 = H at hP hS ⊢
  have hP : va_P (dC, dI) vwCl [(h0, .inr (0, [.int a0, .int a1, .int 1, .int a3, .int 0, .int 1, .int 0, .int (gx_X0_remember_7 (fx_X0_statusOfOpening a1 a2 a3 p0)), .int (gx_X0_remember_8 7), .int a9, .int (gx_X0_remember_10 a10 7 (fx_X0_statusOfOpening a1 a2 a3 p0)), .int (gx_X0_remember_11 a11 (fx_X0_statusOfOpening a1 a2 a3 p0))]))] H := hP
  have hD : va_D A [(h0, .inr (0, [.int a0, .int a1, .int 1, .int a3, .int 0, .int 1, .int 0, .int (gx_X0_remember_7 (fx_X0_statusOfOpening a1 a2 a3 p0)), .int (gx_X0_remember_8 7), .int a9, .int (gx_X0_remember_10 a10 7 (fx_X0_statusOfOpening a1 a2 a3 p0)), .int (gx_X0_remember_11 a11 (fx_X0_statusOfOpening a1 a2 a3 p0))]))] := hD
  have hK : va_K (dC, dI) vwCl [] s := hK
  refine lv_iload_n hx hb dX0_open_58 rfl (lv_at hl 0 rfl) ?_
  have hP9 := hP.sub (ws' := [(h0, .inr (0, [.int a0, .int a1, .int 1, .int a3, .int 0, .int 1, .int 0, .int (gx_X0_remember_7 (fx_X0_statusOfOpening a1 a2 a3 p0)), .int (gx_X0_remember_8 7), .int a9, .int (gx_X0_remember_10 a10 7 (fx_X0_statusOfOpening a1 a2 a3 p0)), .int (gx_X0_remember_11 a11 (fx_X0_statusOfOpening a1 a2 a3 p0))]))]) [0] rfl
  have hD9 := hD.sub (ws' := [(h0, .inr (0, [.int a0, .int a1, .int 1, .int a3, .int 0, .int 1, .int 0, .int (gx_X0_remember_7 (fx_X0_statusOfOpening a1 a2 a3 p0)), .int (gx_X0_remember_8 7), .int a9, .int (gx_X0_remember_10 a10 7 (fx_X0_statusOfOpening a1 a2 a3 p0)), .int (gx_X0_remember_11 a11 (fx_X0_statusOfOpening a1 a2 a3 p0))]))]) [0] (by decide) rfl
  have hK9 := hK.sub (tys' := []) [] rfl
  have eg_2 : gx_X0_open_2 a1 a2 a3 p0 = 1 := by unfold gx_X0_open_2; rw [if_neg c_2, if_pos c_4]
  have eg_4 : gx_X0_open_4 a1 a2 a3 a4 p0 = 0 := by unfold gx_X0_open_4; rw [if_neg c_2, if_pos c_4]
  have eg_5 : gx_X0_open_5 a1 a2 a3 a5 p0 = 1 := by unfold gx_X0_open_5; rw [if_neg c_2, if_pos c_4, if_neg c_7]
  have eg_6 : gx_X0_open_6 = 0 := by rfl
  have eg_7 : gx_X0_open_7 a1 a2 a3 p0 = gx_X0_remember_7 (fx_X0_statusOfOpening a1 a2 a3 p0) := by rfl
  have eg_8 : gx_X0_open_8 = gx_X0_remember_8 7 := by rfl
  have eg_10 : gx_X0_open_10 a1 a2 a3 a10 p0 = gx_X0_remember_10 a10 7 (fx_X0_statusOfOpening a1 a2 a3 p0) := by rfl
  have eg_11 : gx_X0_open_11 a1 a2 a3 a11 p0 = gx_X0_remember_11 a11 (fx_X0_statusOfOpening a1 a2 a3 p0) := by rfl
  have ef : fx_X0_open a1 a2 a3 p0 = fx_X0_statusOfOpening a1 a2 a3 p0 := by rfl
  exact W.iret (v := fx_X0_statusOfOpening a1 a2 a3 p0) hx hb hr (fun t ht hW => ⟨⟨(fx_X0_statusOfOpening a1 a2 a3 p0), [(h0, .inr (0, [.int a0, .int a1, .int 1, .int a3, .int 0, .int 1, .int 0, .int (gx_X0_remember_7 (fx_X0_statusOfOpening a1 a2 a3 p0)), .int (gx_X0_remember_8 7), .int a9, .int (gx_X0_remember_10 a10 7 (fx_X0_statusOfOpening a1 a2 a3 p0)), .int (gx_X0_remember_11 a11 (fx_X0_statusOfOpening a1 a2 a3 p0))]))], rfl, ⟨ef.symm, by rw [eg_2, eg_4, eg_5, eg_6, eg_7, eg_8, eg_10, eg_11]⟩, by rw [ht]; exact hP9, va_K.moved hW.alike hK9, hD9⟩, hS.F ht⟩) hS.2.2 dX0_open_59
set_option maxHeartbeats 4000000 in
set_option maxRecDepth 100000 in
theorem ct_X0_position (l : Launch) (dC : Nat → ClassId) (dI : Nat → Nat → Nat) (h0 : Nat) (sz : Nat) (a0 a1 a2 a3 a4 a5 a6 a7 a8 a9 a10 a11 p0 : Int32) : Met l yX0_position wsX0_position ({ frames := 2, cells := 0, slots := 0, locals := 41 }) (va_Pc [.ref h0, .int p0] (fun U => U.heap.size = sz ∧ va_P (dC, dI) vwCl [(h0, .inr (0, [.int a0, .int a1, .int a2, .int a3, .int a4, .int a5, .int a6, .int a7, .int a8, .int a9, .int a10, .int a11]))] U.heap ∧ va_K (dC, dI) vwCl [] U ∧ va_D (fun _ => True) [(h0, .inr (0, [.int a0, .int a1, .int a2, .int a3, .int a4, .int a5, .int a6, .int a7, .int a8, .int a9, .int a10, .int a11]))])) (va_Qi (fun (r : Int32) (u : va_W) => r = fx_X0_position p0 ∧ u = [(h0, .inr (0, [.int a0, .int a1, .int a2, .int a3, .int a4, .int a5, .int a6, .int a7, .int a8, .int a9, .int a10, .int a11]))]) (at_W dC dI (va_A [(h0, .inr (0, [.int a0, .int a1, .int a2, .int a3, .int a4, .int a5, .int a6, .int a7, .int a8, .int a9, .int a10, .int a11]))] sz)) (va_A [(h0, .inr (0, [.int a0, .int a1, .int a2, .int a3, .int a4, .int a5, .int a6, .int a7, .int a8, .int a9, .int a10, .int a11]))] sz)) 0 0 (va_A [(h0, .inr (0, [.int a0, .int a1, .int a2, .int a3, .int a4, .int a5, .int a6, .int a7, .int a8, .int a9, .int a10, .int a11]))] sz) := by
  refine Met.ofW (cc := cX0_position) (maxL := 2) (ret := (some .int)) (by decide) rfl ?_
  intro p e s m args below meth c s₁ B hml hv
  obtain ⟨rfl, hsz, hP, hK, hD0⟩ := hv
  have hx := B.exec
  have hb := B.bytes
  have hr := B.returns
  have hts := atoms_spec (ws := wsX0_position) B.pre
  have hown : s.vm.findClass RX0 = some m.cls := findClass_of_methodNamed B.named
  have hlocks := B.notSynchronized
  subst hsz
  have hD := hD0.self (sz := s.heap.size)
  generalize hAe : va_A [(h0, .inr (0, [.int a0, .int a1, .int a2, .int a3, .int a4, .int a5, .int a6, .int a7, .int a8, .int a9, .int a10, .int a11]))] s.heap.size = A at hD ⊢
  have hA : ∀ q : Nat, s.heap.size ≤ q → A q := fun q h => by rw [← hAe]; exact Or.inr h
  have hS : va_S A s.heap s.heap [] := va_S.rf
  have hP : va_P (dC, dI) vwCl [(h0, .inr (0, [.int a0, .int a1, .int a2, .int a3, .int a4, .int a5, .int a6, .int a7, .int a8, .int a9, .int a10, .int a11]))] s.heap := hP
  have hl := lv_entry ([.ref h0, .int p0]) (n := 2) (Nat.le_of_ble_eq_true rfl)
  rw [lg_entry_eq]
  generalize (lg_sl ([.ref h0, .int p0]) ++ List.replicate (2 - (lg_sl ([.ref h0, .int p0])).length) Slot.unset).toArray = ls at hl ⊢
  have hl : lv_has ls 2 [(0, .ref h0), (1, .int p0)] := hl
  refine lv_iload_n hx hb dX0_position_0 rfl (lv_at hl 1 rfl) ?_
  have hPc := hP.sub (ws' := []) [] rfl
  have hDc := hD.sub (ws' := []) [] (by decide) rfl
  have hKc := hK.sub (tys' := []) [] rfl
  have hFc := va_free (wc := []) hD hS hA [] rfl
  refine va_calli (va_runS (As := [.int p0]) (rest := []) ⟨hx, hb, hml, hown, hts⟩ (ct_X0_isStatus l dC dI s.heap.size p0) (va_cwS 1 hts gX0_position_X0_isStatus rfl rfl rfl (by decide +kernel) ⟨Nat.le_of_ble_eq_true rfl, Nat.le_of_ble_eq_true rfl⟩) ⟨fun a U g mk q => by obtain ⟨q0, q1, qP, qK, qD⟩ := q; exact ⟨q0, q1, qP, va_K.moved (u := U) (U := U.calling g mk a) (Vm.Alike.refl U.vm) qK, qD⟩, fun U hU hW => ⟨rfl, by rw [hU], by rw [hU]; exact hPc, va_K.moved hW.alike hKc, hDc.weaken (fun _ _ _ _ => trivial)⟩⟩ rfl rfl hl.1 rfl (lv_room (Nat.le_of_ble_eq_true rfl)) dX0_position_1 ⟨(Nat.zero_le _), (Nat.zero_le _)⟩) hS (fun q _ h => hFc q h) hFc (fun r_1 u t H1 locs ht hvm hw hB hz1 hk1 hS => ?_)
  obtain ⟨er, hu⟩ := hw
  subst hu
  subst er
  obtain ⟨hP1, hK1, hD1⟩ := hB
  rw [ht] at hP1
  have hK1 := va_K.moved hvm.symm hK1
  obtain ⟨hP, hD⟩ := va_join (wr := [(h0, .inr (0, [.int a0, .int a1, .int a2, .int a3, .int a4, .int a5, .int a6, .int a7, .int a8, .int a9, .int a10, .int a11]))]) (w1 := []) hP hD [] [0] rfl rfl (by decide) (by decide) hk1 hFc hP1 hD1
  have hK := (hK.sub (tys' := []) [] rfl).app hK1
  generalize H1 = H at hP hS ⊢
  have hP : va_P (dC, dI) vwCl [(h0, .inr (0, [.int a0, .int a1, .int a2, .int a3, .int a4, .int a5, .int a6, .int a7, .int a8, .int a9, .int a10, .int a11]))] H := hP
  have hD : va_D A [(h0, .inr (0, [.int a0, .int a1, .int a2, .int a3, .int a4, .int a5, .int a6, .int a7, .int a8, .int a9, .int a10, .int a11]))] := hD
  have hK : va_K (dC, dI) vwCl [] s := hK
  refine lv_if_ne (tgt := 9) hx hb dX0_position_4 (by decide) (fun c_2 => ?_) (fun c_2 => ?_)
  · refine lv_iload_n hx hb dX0_position_9 rfl (lv_at hl 1 rfl) ?_
    refine lv_iconst (v := 0) hx hb dX0_position_10 (by decide) ?_
    have hPc := hP.sub (ws' := []) [] rfl
    have hDc := hD.sub (ws' := []) [] (by decide) rfl
    have hKc := hK.sub (tys' := []) [] rfl
    have hFc := va_free (wc := []) hD hS hA [] rfl
    refine va_calli (va_runS (As := [.int p0, .int 0]) (rest := []) ⟨hx, hb, hml, hown, hts⟩ (ct_X0_placeAfter l dC dI H.size p0 0) (va_cwS 2 hts gX0_position_X0_placeAfter rfl rfl rfl (by decide +kernel) ⟨Nat.le_of_ble_eq_true rfl, Nat.le_of_ble_eq_true rfl⟩) ⟨fun a U g mk q => by obtain ⟨q0, q1, qP, qK, qD⟩ := q; exact ⟨q0, q1, qP, va_K.moved (u := U) (U := U.calling g mk a) (Vm.Alike.refl U.vm) qK, qD⟩, fun U hU hW => ⟨rfl, by rw [hU], by rw [hU]; exact hPc, va_K.moved hW.alike hKc, hDc.weaken (fun _ _ _ _ => trivial)⟩⟩ rfl rfl hl.1 rfl (lv_room (Nat.le_of_ble_eq_true rfl)) dX0_position_11 ⟨(Nat.zero_le _), (Nat.zero_le _)⟩) hS (fun q _ h => hFc q h) hFc (fun r_3 u t H1 locs ht hvm hw hB hz1 hk1 hS => ?_)
    obtain ⟨er, hu⟩ := hw
    subst hu
    subst er
    obtain ⟨hP1, hK1, hD1⟩ := hB
    rw [ht] at hP1
    have hK1 := va_K.moved hvm.symm hK1
    obtain ⟨hP, hD⟩ := va_join (wr := [(h0, .inr (0, [.int a0, .int a1, .int a2, .int a3, .int a4, .int a5, .int a6, .int a7, .int a8, .int a9, .int a10, .int a11]))]) (w1 := []) hP hD [] [0] rfl rfl (by decide) (by decide) hk1 hFc hP1 hD1
    have hK := (hK.sub (tys' := []) [] rfl).app hK1
    generalize H1 = H at hP hS ⊢
    have hP : va_P (dC, dI) vwCl [(h0, .inr (0, [.int a0, .int a1, .int a2, .int a3, .int a4, .int a5, .int a6, .int a7, .int a8, .int a9, .int a10, .int a11]))] H := hP
    have hD : va_D A [(h0, .inr (0, [.int a0, .int a1, .int a2, .int a3, .int a4, .int a5, .int a6, .int a7, .int a8, .int a9, .int a10, .int a11]))] := hD
    have hK : va_K (dC, dI) vwCl [] s := hK
    have hP9 := hP.sub (ws' := [(h0, .inr (0, [.int a0, .int a1, .int a2, .int a3, .int a4, .int a5, .int a6, .int a7, .int a8, .int a9, .int a10, .int a11]))]) [0] rfl
    have hD9 := hD.sub (ws' := [(h0, .inr (0, [.int a0, .int a1, .int a2, .int a3, .int a4, .int a5, .int a6, .int a7, .int a8, .int a9, .int a10, .int a11]))]) [0] (by decide) rfl
    have hK9 := hK.sub (tys' := []) [] rfl
    have ef : fx_X0_position p0 = fx_X0_placeAfter p0 0 := by unfold fx_X0_position; rw [if_neg c_2]
    exact W.iret (v := fx_X0_placeAfter p0 0) hx hb hr (fun t ht hW => ⟨⟨(fx_X0_placeAfter p0 0), [(h0, .inr (0, [.int a0, .int a1, .int a2, .int a3, .int a4, .int a5, .int a6, .int a7, .int a8, .int a9, .int a10, .int a11]))], rfl, ⟨ef.symm, rfl⟩, by rw [ht]; exact hP9, va_K.moved hW.alike hK9, hD9⟩, hS.F ht⟩) hS.2.2 dX0_position_14
  refine lv_iconst (v := (-1)) hx hb dX0_position_7 (by decide) ?_
  have hP9 := hP.sub (ws' := [(h0, .inr (0, [.int a0, .int a1, .int a2, .int a3, .int a4, .int a5, .int a6, .int a7, .int a8, .int a9, .int a10, .int a11]))]) [0] rfl
  have hD9 := hD.sub (ws' := [(h0, .inr (0, [.int a0, .int a1, .int a2, .int a3, .int a4, .int a5, .int a6, .int a7, .int a8, .int a9, .int a10, .int a11]))]) [0] (by decide) rfl
  have hK9 := hK.sub (tys' := []) [] rfl
  have ef : fx_X0_position p0 = (-1) := by unfold fx_X0_position; rw [if_pos c_2]
  exact W.iret (v := (-1)) hx hb hr (fun t ht hW => ⟨⟨(-1), [(h0, .inr (0, [.int a0, .int a1, .int a2, .int a3, .int a4, .int a5, .int a6, .int a7, .int a8, .int a9, .int a10, .int a11]))], rfl, ⟨ef.symm, rfl⟩, by rw [ht]; exact hP9, va_K.moved hW.alike hK9, hD9⟩, hS.F ht⟩) hS.2.2 dX0_position_8
set_option maxHeartbeats 4000000 in
set_option maxRecDepth 100000 in
theorem ct_X0_statusAheadOfOutcome (l : Launch) (dC : Nat → ClassId) (dI : Nat → Nat → Nat) (h0 : Nat) (sz : Nat) (a0 a1 a2 a3 a4 a5 a6 a7 a8 a9 a10 a11 p0 : Int32) : Met l yX0_statusAheadOfOutcome wsX0_statusAheadOfOutcome ({ frames := 2, cells := 0, slots := 0, locals := 41 }) (va_Pc [.ref h0, .int p0] (fun U => U.heap.size = sz ∧ va_P (dC, dI) vwCl [(h0, .inr (0, [.int a0, .int a1, .int a2, .int a3, .int a4, .int a5, .int a6, .int a7, .int a8, .int a9, .int a10, .int a11]))] U.heap ∧ va_K (dC, dI) vwCl [] U ∧ va_D (fun _ => True) [(h0, .inr (0, [.int a0, .int a1, .int a2, .int a3, .int a4, .int a5, .int a6, .int a7, .int a8, .int a9, .int a10, .int a11]))])) (va_Qi (fun (r : Int32) (u : va_W) => r = fx_X0_statusAheadOfOutcome a0 a1 a2 a4 a6 p0 ∧ u = [(h0, .inr (0, [.int a0, .int a1, .int a2, .int a3, .int a4, .int a5, .int a6, .int a7, .int a8, .int a9, .int a10, .int a11]))]) (at_W dC dI (va_A [(h0, .inr (0, [.int a0, .int a1, .int a2, .int a3, .int a4, .int a5, .int a6, .int a7, .int a8, .int a9, .int a10, .int a11]))] sz)) (va_A [(h0, .inr (0, [.int a0, .int a1, .int a2, .int a3, .int a4, .int a5, .int a6, .int a7, .int a8, .int a9, .int a10, .int a11]))] sz)) 0 0 (va_A [(h0, .inr (0, [.int a0, .int a1, .int a2, .int a3, .int a4, .int a5, .int a6, .int a7, .int a8, .int a9, .int a10, .int a11]))] sz) := by
  refine Met.ofW (cc := cX0_statusAheadOfOutcome) (maxL := 3) (ret := (some .int)) (by decide) rfl ?_
  intro p e s m args below meth c s₁ B hml hv
  obtain ⟨rfl, hsz, hP, hK, hD0⟩ := hv
  have hx := B.exec
  have hb := B.bytes
  have hr := B.returns
  have hts := atoms_spec (ws := wsX0_statusAheadOfOutcome) B.pre
  have hown : s.vm.findClass RX0 = some m.cls := findClass_of_methodNamed B.named
  have hlocks := B.notSynchronized
  subst hsz
  have hD := hD0.self (sz := s.heap.size)
  generalize hAe : va_A [(h0, .inr (0, [.int a0, .int a1, .int a2, .int a3, .int a4, .int a5, .int a6, .int a7, .int a8, .int a9, .int a10, .int a11]))] s.heap.size = A at hD ⊢
  have hA : ∀ q : Nat, s.heap.size ≤ q → A q := fun q h => by rw [← hAe]; exact Or.inr h
  have hS : va_S A s.heap s.heap [] := va_S.rf
  have hP : va_P (dC, dI) vwCl [(h0, .inr (0, [.int a0, .int a1, .int a2, .int a3, .int a4, .int a5, .int a6, .int a7, .int a8, .int a9, .int a10, .int a11]))] s.heap := hP
  have hl := lv_entry ([.ref h0, .int p0]) (n := 3) (Nat.le_of_ble_eq_true rfl)
  rw [lg_entry_eq]
  generalize (lg_sl ([.ref h0, .int p0]) ++ List.replicate (3 - (lg_sl ([.ref h0, .int p0])).length) Slot.unset).toArray = ls at hl ⊢
  have hl : lv_has ls 3 [(0, .ref h0), (1, .int p0)] := hl
  refine lv_aload_n hx hb dX0_statusAheadOfOutcome_0 rfl (lv_at hl 0 rfl) ?_
  refine va_get (D := (dC, dI)) (ci := 0) (v := .int a2) (C := RX0) (T := TX0) (N := 12) hx hb hts (fun _ h => List.mem_cons_of_mem _ (List.mem_append_right _ h)) hown hK hP 0 rfl rfl 2 (by decide) (hts (.fieldLink RX0 13 "FileStatus" "isOpen" "Z") (by decide +kernel)) (fun _ h9 => h9) rfl dX0_statusAheadOfOutcome_1 ?_
  refine lv_if_ne (tgt := 10) hx hb dX0_statusAheadOfOutcome_4 (by decide) (fun c_1 => ?_) (fun c_1 => ?_)
  · refine lv_aload_n hx hb dX0_statusAheadOfOutcome_10 rfl (lv_at hl 0 rfl) ?_
    refine va_get (D := (dC, dI)) (ci := 0) (v := .int a0) (C := RX0) (T := TX0) (N := 12) hx hb hts (fun _ h => List.mem_cons_of_mem _ (List.mem_append_right _ h)) hown hK hP 0 rfl rfl 0 (by decide) (hts (.fieldLink RX0 53 "FileStatus" "organisation" "I") (by decide +kernel)) (fun _ h9 => h9) rfl dX0_statusAheadOfOutcome_11 ?_
    refine lv_if_ne (tgt := 35) hx hb dX0_statusAheadOfOutcome_14 (by decide) (fun c_2 => ?_) (fun c_2 => ?_)
    · refine lv_aload_n hx hb dX0_statusAheadOfOutcome_35 rfl (lv_at hl 0 rfl) ?_
      refine lv_iload_n hx hb dX0_statusAheadOfOutcome_36 rfl (lv_at hl 1 rfl) ?_
      have hPc := hP.sub (ws' := [(h0, .inr (0, [.int a0, .int a1, .int a2, .int a3, .int a4, .int a5, .int a6, .int a7, .int a8, .int a9, .int a10, .int a11]))]) [0] rfl
      have hDc := hD.sub (ws' := [(h0, .inr (0, [.int a0, .int a1, .int a2, .int a3, .int a4, .int a5, .int a6, .int a7, .int a8, .int a9, .int a10, .int a11]))]) [0] (by decide) rfl
      have hKc := hK.sub (tys' := []) [] rfl
      have hFc := va_free (wc := [(h0, .inr (0, [.int a0, .int a1, .int a2, .int a3, .int a4, .int a5, .int a6, .int a7, .int a8, .int a9, .int a10, .int a11]))]) hD hS hA [0] rfl
      refine va_calli (va_runV (As := [.int p0]) (rest := []) ⟨hx, hb, hml, hown, hts⟩ (ct_X0_statusOfWrongMode l dC dI h0 s.heap.size a0 a1 a2 a3 a4 a5 a6 a7 a8 a9 a10 a11 p0) (cwV 1 hts gX0_statusAheadOfOutcome_X0_statusOfWrongMode rfl rfl rfl (by decide +kernel) ⟨Nat.le_of_ble_eq_true rfl, Nat.le_of_ble_eq_true rfl⟩) ⟨fun a U g mk q => by obtain ⟨q0, q1, qP, qK, qD⟩ := q; exact ⟨q0, q1, qP, va_K.moved (u := U) (U := U.calling g mk a) (Vm.Alike.refl U.vm) qK, qD⟩, va_recv hKc hPc (ci := 0) (q0 := 0) rfl rfl, fun U hU hW => ⟨rfl, by rw [hU], by rw [hU]; exact hPc, va_K.moved hW.alike hKc, hDc.weaken (fun _ _ _ _ => trivial)⟩⟩ rfl rfl hl.1 rfl (lv_room (Nat.le_of_ble_eq_true rfl)) dX0_statusAheadOfOutcome_37 ⟨(Nat.zero_le _), (Nat.zero_le _)⟩) hS (fun q _ h => hFc q h) hFc (fun r_3 u t H1 locs ht hvm hw hB hz1 hk1 hS => ?_)
      obtain ⟨er, hu⟩ := hw
      subst hu
      subst er
      obtain ⟨hP1, hK1, hD1⟩ := hB
      rw [ht] at hP1
      have hK1 := va_K.moved hvm.symm hK1
      obtain ⟨hP, hD⟩ := va_join (wr := []) (w1 := [(h0, .inr (0, [.int a0, .int a1, .int a2, .int a3, .int a4, .int a5, .int a6, .int a7, .int a8, .int a9, .int a10, .int a11]))]) hP hD [0] [] rfl rfl (by decide) (by decide) hk1 hFc hP1 hD1
      have hK := (hK.sub (tys' := []) [] rfl).app hK1
      generalize H1 = H at hP hS ⊢
      have hP : va_P (dC, dI) vwCl [(h0, .inr (0, [.int a0, .int a1, .int a2, .int a3, .int a4, .int a5, .int a6, .int a7, .int a8, .int a9, .int a10, .int a11]))] H := hP
      have hD : va_D A [(h0, .inr (0, [.int a0, .int a1, .int a2, .int a3, .int a4, .int a5, .int a6, .int a7, .int a8, .int a9, .int a10, .int a11]))] := hD
      have hK : va_K (dC, dI) vwCl [] s := hK
      refine lv_istore_n (lv' := [(2, .int (fx_X0_statusOfWrongMode a0 a1 p0)), (0, .ref h0), (1, .int p0)]) hx hb dX0_statusAheadOfOutcome_40 rfl hl (by decide) rfl (fun ls hl => ?_)
      refine lv_iload_n hx hb dX0_statusAheadOfOutcome_41 rfl (lv_at hl 0 rfl) ?_
      refine lv_iconst (v := (-1)) hx hb dX0_statusAheadOfOutcome_42 (by decide) ?_
      refine lv_icmp_eq (tgt := 48) hx hb dX0_statusAheadOfOutcome_43 (by decide) (fun c_4 => ?_) (fun c_4 => ?_)
      · refine lv_iload_n hx hb dX0_statusAheadOfOutcome_48 rfl (lv_at hl 2 rfl) ?_
        refine lv_iconst (v := 3) hx hb dX0_statusAheadOfOutcome_49 (by decide) ?_
        refine lv_icmp_ne (tgt := 70) hx hb dX0_statusAheadOfOutcome_50 (by decide) (fun c_5 => ?_) (fun c_5 => ?_)
        · refine lv_iload_n hx hb dX0_statusAheadOfOutcome_70 rfl (lv_at hl 2 rfl) ?_
          refine lv_if_ne (tgt := 93) hx hb dX0_statusAheadOfOutcome_71 (by decide) (fun c_6 => ?_) (fun c_6 => ?_)
          · refine lv_iconst (v := (-1)) hx hb dX0_statusAheadOfOutcome_93 (by decide) ?_
            have hP9 := hP.sub (ws' := [(h0, .inr (0, [.int a0, .int a1, .int a2, .int a3, .int a4, .int a5, .int a6, .int a7, .int a8, .int a9, .int a10, .int a11]))]) [0] rfl
            have hD9 := hD.sub (ws' := [(h0, .inr (0, [.int a0, .int a1, .int a2, .int a3, .int a4, .int a5, .int a6, .int a7, .int a8, .int a9, .int a10, .int a11]))]) [0] (by decide) rfl
            have hK9 := hK.sub (tys' := []) [] rfl
            have ef : fx_X0_statusAheadOfOutcome a0 a1 a2 a4 a6 p0 = (-1) := by unfold fx_X0_statusAheadOfOutcome; rw [if_neg c_1, if_neg c_2, if_pos c_4, if_neg c_5, if_neg c_6]
            exact W.iret (v := (-1)) hx hb hr (fun t ht hW => ⟨⟨(-1), [(h0, .inr (0, [.int a0, .int a1, .int a2, .int a3, .int a4, .int a5, .int a6, .int a7, .int a8, .int a9, .int a10, .int a11]))], rfl, ⟨ef.symm, rfl⟩, by rw [ht]; exact hP9, va_K.moved hW.alike hK9, hD9⟩, hS.F ht⟩) hS.2.2 dX0_statusAheadOfOutcome_94
          refine lv_aload_n hx hb dX0_statusAheadOfOutcome_74 rfl (lv_at hl 1 rfl) ?_
          refine va_get (D := (dC, dI)) (ci := 0) (v := .int a4) (C := RX0) (T := TX0) (N := 12) hx hb hts (fun _ h => List.mem_cons_of_mem _ (List.mem_append_right _ h)) hown hK hP 0 rfl rfl 4 (by decide) (hts (.fieldLink RX0 20 "FileStatus" "place" "I") (by decide +kernel)) (fun _ h9 => h9) rfl dX0_statusAheadOfOutcome_75 ?_
          refine lv_iconst (v := 2) hx hb dX0_statusAheadOfOutcome_78 (by decide) ?_
          refine lv_icmp_eq (tgt := 90) hx hb dX0_statusAheadOfOutcome_79 (by decide) (fun c_7 => ?_) (fun c_7 => ?_)
          · refine lv_bipush (v := 46) hx hb dX0_statusAheadOfOutcome_90 (by decide) ?_
            have hP9 := hP.sub (ws' := [(h0, .inr (0, [.int a0, .int a1, .int a2, .int a3, .int a4, .int a5, .int a6, .int a7, .int a8, .int a9, .int a10, .int a11]))]) [0] rfl
            have hD9 := hD.sub (ws' := [(h0, .inr (0, [.int a0, .int a1, .int a2, .int a3, .int a4, .int a5, .int a6, .int a7, .int a8, .int a9, .int a10, .int a11]))]) [0] (by decide) rfl
            have hK9 := hK.sub (tys' := []) [] rfl
            have ef : fx_X0_statusAheadOfOutcome a0 a1 a2 a4 a6 p0 = 46 := by unfold fx_X0_statusAheadOfOutcome; rw [if_neg c_1, if_neg c_2, if_pos c_4, if_neg c_5, if_pos c_6, if_pos c_7]
            exact W.iret (v := 46) hx hb hr (fun t ht hW => ⟨⟨46, [(h0, .inr (0, [.int a0, .int a1, .int a2, .int a3, .int a4, .int a5, .int a6, .int a7, .int a8, .int a9, .int a10, .int a11]))], rfl, ⟨ef.symm, rfl⟩, by rw [ht]; exact hP9, va_K.moved hW.alike hK9, hD9⟩, hS.F ht⟩) hS.2.2 dX0_statusAheadOfOutcome_92
          refine lv_aload_n hx hb dX0_statusAheadOfOutcome_82 rfl (lv_at hl 1 rfl) ?_
          refine va_get (D := (dC, dI)) (ci := 0) (v := .int a4) (C := RX0) (T := TX0) (N := 12) hx hb hts (fun _ h => List.mem_cons_of_mem _ (List.mem_append_right _ h)) hown hK hP 0 rfl rfl 4 (by decide) (hts (.fieldLink RX0 20 "FileStatus" "place" "I") (by decide +kernel)) (fun _ h9 => h9) rfl dX0_statusAheadOfOutcome_83 ?_
          refine lv_iconst (v := 3) hx hb dX0_statusAheadOfOutcome_86 (by decide) ?_
          refine lv_icmp_ne (tgt := 93) hx hb dX0_statusAheadOfOutcome_87 (by decide) (fun c_8 => ?_) (fun c_8 => ?_)
          · refine lv_iconst (v := (-1)) hx hb dX0_statusAheadOfOutcome_93 (by decide) ?_
            have hP9 := hP.sub (ws' := [(h0, .inr (0, [.int a0, .int a1, .int a2, .int a3, .int a4, .int a5, .int a6, .int a7, .int a8, .int a9, .int a10, .int a11]))]) [0] rfl
            have hD9 := hD.sub (ws' := [(h0, .inr (0, [.int a0, .int a1, .int a2, .int a3, .int a4, .int a5, .int a6, .int a7, .int a8, .int a9, .int a10, .int a11]))]) [0] (by decide) rfl
            have hK9 := hK.sub (tys' := []) [] rfl
            have ef : fx_X0_statusAheadOfOutcome a0 a1 a2 a4 a6 p0 = (-1) := by unfold fx_X0_statusAheadOfOutcome; rw [if_neg c_1, if_neg c_2, if_pos c_4, if_neg c_5, if_pos c_6, if_neg c_7, if_neg c_8]
            exact W.iret (v := (-1)) hx hb hr (fun t ht hW => ⟨⟨(-1), [(h0, .inr (0, [.int a0, .int a1, .int a2, .int a3, .int a4, .int a5, .int a6, .int a7, .int a8, .int a9, .int a10, .int a11]))], rfl, ⟨ef.symm, rfl⟩, by rw [ht]; exact hP9, va_K.moved hW.alike hK9, hD9⟩, hS.F ht⟩) hS.2.2 dX0_statusAheadOfOutcome_94
          refine lv_bipush (v := 46) hx hb dX0_statusAheadOfOutcome_90 (by decide) ?_
          have hP9 := hP.sub (ws' := [(h0, .inr (0, [.int a0, .int a1, .int a2, .int a3, .int a4, .int a5, .int a6, .int a7, .int a8, .int a9, .int a10, .int a11]))]) [0] rfl
          have hD9 := hD.sub (ws' := [(h0, .inr (0, [.int a0, .int a1, .int a2, .int a3, .int a4, .int a5, .int a6, .int a7, .int a8, .int a9, .int a10, .int a11]))]) [0] (by decide) rfl
          have hK9 := hK.sub (tys' := []) [] rfl
          have ef : fx_X0_statusAheadOfOutcome a0 a1 a2 a4 a6 p0 = 46 := by unfold fx_X0_statusAheadOfOutcome; rw [if_neg c_1, if_neg c_2, if_pos c_4, if_neg c_5, if_pos c_6, if_neg c_7, if_pos c_8]
          exact W.iret (v := 46) hx hb hr (fun t ht hW => ⟨⟨46, [(h0, .inr (0, [.int a0, .int a1, .int a2, .int a3, .int a4, .int a5, .int a6, .int a7, .int a8, .int a9, .int a10, .int a11]))], rfl, ⟨ef.symm, rfl⟩, by rw [ht]; exact hP9, va_K.moved hW.alike hK9, hD9⟩, hS.F ht⟩) hS.2.2 dX0_statusAheadOfOutcome_92
        refine lv_aload_n hx hb dX0_statusAheadOfOutcome_53 rfl (lv_at hl 1 rfl) ?_
        refine va_get (D := (dC, dI)) (ci := 0) (v := .int a0) (C := RX0) (T := TX0) (N := 12) hx hb hts (fun _ h => List.mem_cons_of_mem _ (List.mem_append_right _ h)) hown hK hP 0 rfl rfl 0 (by decide) (hts (.fieldLink RX0 53 "FileStatus" "organisation" "I") (by decide +kernel)) (fun _ h9 => h9) rfl dX0_statusAheadOfOutcome_54 ?_
        refine lv_if_ne (tgt := 70) hx hb dX0_statusAheadOfOutcome_57 (by decide) (fun c9 => ?_) (fun c9 => absurd c9 c_2)
        refine lv_iload_n hx hb dX0_statusAheadOfOutcome_70 rfl (lv_at hl 2 rfl) ?_
        refine lv_if_ne (tgt := 93) hx hb dX0_statusAheadOfOutcome_71 (by decide) (fun c9 => ?_) (fun c9 => absurd (c_5.symm.trans c9) (by decide))
        refine lv_iconst (v := (-1)) hx hb dX0_statusAheadOfOutcome_93 (by decide) ?_
        have hP9 := hP.sub (ws' := [(h0, .inr (0, [.int a0, .int a1, .int a2, .int a3, .int a4, .int a5, .int a6, .int a7, .int a8, .int a9, .int a10, .int a11]))]) [0] rfl
        have hD9 := hD.sub (ws' := [(h0, .inr (0, [.int a0, .int a1, .int a2, .int a3, .int a4, .int a5, .int a6, .int a7, .int a8, .int a9, .int a10, .int a11]))]) [0] (by decide) rfl
        have hK9 := hK.sub (tys' := []) [] rfl
        have ef : fx_X0_statusAheadOfOutcome a0 a1 a2 a4 a6 p0 = (-1) := by unfold fx_X0_statusAheadOfOutcome; rw [if_neg c_1, if_neg c_2, if_pos c_4, if_pos c_5]
        exact W.iret (v := (-1)) hx hb hr (fun t ht hW => ⟨⟨(-1), [(h0, .inr (0, [.int a0, .int a1, .int a2, .int a3, .int a4, .int a5, .int a6, .int a7, .int a8, .int a9, .int a10, .int a11]))], rfl, ⟨ef.symm, rfl⟩, by rw [ht]; exact hP9, va_K.moved hW.alike hK9, hD9⟩, hS.F ht⟩) hS.2.2 dX0_statusAheadOfOutcome_94
      refine lv_iload_n hx hb dX0_statusAheadOfOutcome_46 rfl (lv_at hl 0 rfl) ?_
      have hP9 := hP.sub (ws' := [(h0, .inr (0, [.int a0, .int a1, .int a2, .int a3, .int a4, .int a5, .int a6, .int a7, .int a8, .int a9, .int a10, .int a11]))]) [0] rfl
      have hD9 := hD.sub (ws' := [(h0, .inr (0, [.int a0, .int a1, .int a2, .int a3, .int a4, .int a5, .int a6, .int a7, .int a8, .int a9, .int a10, .int a11]))]) [0] (by decide) rfl
      have hK9 := hK.sub (tys' := []) [] rfl
      have ef : fx_X0_statusAheadOfOutcome a0 a1 a2 a4 a6 p0 = fx_X0_statusOfWrongMode a0 a1 p0 := by unfold fx_X0_statusAheadOfOutcome; rw [if_neg c_1, if_neg c_2, if_neg c_4]
      exact W.iret (v := fx_X0_statusOfWrongMode a0 a1 p0) hx hb hr (fun t ht hW => ⟨⟨(fx_X0_statusOfWrongMode a0 a1 p0), [(h0, .inr (0, [.int a0, .int a1, .int a2, .int a3, .int a4, .int a5, .int a6, .int a7, .int a8, .int a9, .int a10, .int a11]))], rfl, ⟨ef.symm, rfl⟩, by rw [ht]; exact hP9, va_K.moved hW.alike hK9, hD9⟩, hS.F ht⟩) hS.2.2 dX0_statusAheadOfOutcome_47
    refine lv_iload_n hx hb dX0_statusAheadOfOutcome_17 rfl (lv_at hl 1 rfl) ?_
    refine lv_iconst (v := 1) hx hb dX0_statusAheadOfOutcome_18 (by decide) ?_
    refine lv_icmp_eq (tgt := 32) hx hb dX0_statusAheadOfOutcome_19 (by decide) (fun c_9 => ?_) (fun c_9 => ?_)
    · refine lv_bipush (v := 90) hx hb dX0_statusAheadOfOutcome_32 (by decide) ?_
      have hP9 := hP.sub (ws' := [(h0, .inr (0, [.int a0, .int a1, .int a2, .int a3, .int a4, .int a5, .int a6, .int a7, .int a8, .int a9, .int a10, .int a11]))]) [0] rfl
      have hD9 := hD.sub (ws' := [(h0, .inr (0, [.int a0, .int a1, .int a2, .int a3, .int a4, .int a5, .int a6, .int a7, .int a8, .int a9, .int a10, .int a11]))]) [0] (by decide) rfl
      have hK9 := hK.sub (tys' := []) [] rfl
      have ef : fx_X0_statusAheadOfOutcome a0 a1 a2 a4 a6 p0 = 90 := by unfold fx_X0_statusAheadOfOutcome; rw [if_neg c_1, if_pos c_2, if_pos c_9]
      exact W.iret (v := 90) hx hb hr (fun t ht hW => ⟨⟨90, [(h0, .inr (0, [.int a0, .int a1, .int a2, .int a3, .int a4, .int a5, .int a6, .int a7, .int a8, .int a9, .int a10, .int a11]))], rfl, ⟨ef.symm, rfl⟩, by rw [ht]; exact hP9, va_K.moved hW.alike hK9, hD9⟩, hS.F ht⟩) hS.2.2 dX0_statusAheadOfOutcome_34
    refine lv_iload_n hx hb dX0_statusAheadOfOutcome_22 rfl (lv_at hl 1 rfl) ?_
    refine lv_iconst (v := 4) hx hb dX0_statusAheadOfOutcome_23 (by decide) ?_
    refine lv_icmp_eq (tgt := 32) hx hb dX0_statusAheadOfOutcome_24 (by decide) (fun c_10 => ?_) (fun c_10 => ?_)
    · refine lv_bipush (v := 90) hx hb dX0_statusAheadOfOutcome_32 (by decide) ?_
      have hP9 := hP.sub (ws' := [(h0, .inr (0, [.int a0, .int a1, .int a2, .int a3, .int a4, .int a5, .int a6, .int a7, .int a8, .int a9, .int a10, .int a11]))]) [0] rfl
      have hD9 := hD.sub (ws' := [(h0, .inr (0, [.int a0, .int a1, .int a2, .int a3, .int a4, .int a5, .int a6, .int a7, .int a8, .int a9, .int a10, .int a11]))]) [0] (by decide) rfl
      have hK9 := hK.sub (tys' := []) [] rfl
      have ef : fx_X0_statusAheadOfOutcome a0 a1 a2 a4 a6 p0 = 90 := by unfold fx_X0_statusAheadOfOutcome; rw [if_neg c_1, if_pos c_2, if_neg c_9, if_pos c_10]
      exact W.iret (v := 90) hx hb hr (fun t ht hW => ⟨⟨90, [(h0, .inr (0, [.int a0, .int a1, .int a2, .int a3, .int a4, .int a5, .int a6, .int a7, .int a8, .int a9, .int a10, .int a11]))], rfl, ⟨ef.symm, rfl⟩, by rw [ht]; exact hP9, va_K.moved hW.alike hK9, hD9⟩, hS.F ht⟩) hS.2.2 dX0_statusAheadOfOutcome_34
    refine lv_iload_n hx hb dX0_statusAheadOfOutcome_27 rfl (lv_at hl 1 rfl) ?_
    refine lv_iconst (v := 5) hx hb dX0_statusAheadOfOutcome_28 (by decide) ?_
    refine lv_icmp_ne (tgt := 35) hx hb dX0_statusAheadOfOutcome_29 (by decide) (fun c_11 => ?_) (fun c_11 => ?_)
    · refine lv_aload_n hx hb dX0_statusAheadOfOutcome_35 rfl (lv_at hl 0 rfl) ?_
      refine lv_iload_n hx hb dX0_statusAheadOfOutcome_36 rfl (lv_at hl 1 rfl) ?_
      have hPc := hP.sub (ws' := [(h0, .inr (0, [.int a0, .int a1, .int a2, .int a3, .int a4, .int a5, .int a6, .int a7, .int a8, .int a9, .int a10, .int a11]))]) [0] rfl
      have hDc := hD.sub (ws' := [(h0, .inr (0, [.int a0, .int a1, .int a2, .int a3, .int a4, .int a5, .int a6, .int a7, .int a8, .int a9, .int a10, .int a11]))]) [0] (by decide) rfl
      have hKc := hK.sub (tys' := []) [] rfl
      have hFc := va_free (wc := [(h0, .inr (0, [.int a0, .int a1, .int a2, .int a3, .int a4, .int a5, .int a6, .int a7, .int a8, .int a9, .int a10, .int a11]))]) hD hS hA [0] rfl
      refine va_calli (va_runV (As := [.int p0]) (rest := []) ⟨hx, hb, hml, hown, hts⟩ (ct_X0_statusOfWrongMode l dC dI h0 s.heap.size a0 a1 a2 a3 a4 a5 a6 a7 a8 a9 a10 a11 p0) (cwV 1 hts gX0_statusAheadOfOutcome_X0_statusOfWrongMode rfl rfl rfl (by decide +kernel) ⟨Nat.le_of_ble_eq_true rfl, Nat.le_of_ble_eq_true rfl⟩) ⟨fun a U g mk q => by obtain ⟨q0, q1, qP, qK, qD⟩ := q; exact ⟨q0, q1, qP, va_K.moved (u := U) (U := U.calling g mk a) (Vm.Alike.refl U.vm) qK, qD⟩, va_recv hKc hPc (ci := 0) (q0 := 0) rfl rfl, fun U hU hW => ⟨rfl, by rw [hU], by rw [hU]; exact hPc, va_K.moved hW.alike hKc, hDc.weaken (fun _ _ _ _ => trivial)⟩⟩ rfl rfl hl.1 rfl (lv_room (Nat.le_of_ble_eq_true rfl)) dX0_statusAheadOfOutcome_37 ⟨(Nat.zero_le _), (Nat.zero_le _)⟩) hS (fun q _ h => hFc q h) hFc (fun r_12 u t H1 locs ht hvm hw hB hz1 hk1 hS => ?_)
      obtain ⟨er, hu⟩ := hw
      subst hu
      subst er
      obtain ⟨hP1, hK1, hD1⟩ := hB
      rw [ht] at hP1
      have hK1 := va_K.moved hvm.symm hK1
      obtain ⟨hP, hD⟩ := va_join (wr := []) (w1 := [(h0, .inr (0, [.int a0, .int a1, .int a2, .int a3, .int a4, .int a5, .int a6, .int a7, .int a8, .int a9, .int a10, .int a11]))]) hP hD [0] [] rfl rfl (by decide) (by decide) hk1 hFc hP1 hD1
      have hK := (hK.sub (tys' := []) [] rfl).app hK1
      generalize H1 = H at hP hS ⊢
      have hP : va_P (dC, dI) vwCl [(h0, .inr (0, [.int a0, .int a1, .int a2, .int a3, .int a4, .int a5, .int a6, .int a7, .int a8, .int a9, .int a10, .int a11]))] H := hP
      have hD : va_D A [(h0, .inr (0, [.int a0, .int a1, .int a2, .int a3, .int a4, .int a5, .int a6, .int a7, .int a8, .int a9, .int a10, .int a11]))] := hD
      have hK : va_K (dC, dI) vwCl [] s := hK
      refine lv_istore_n (lv' := [(2, .int (fx_X0_statusOfWrongMode a0 a1 p0)), (0, .ref h0), (1, .int p0)]) hx hb dX0_statusAheadOfOutcome_40 rfl hl (by decide) rfl (fun ls hl => ?_)
      refine lv_iload_n hx hb dX0_statusAheadOfOutcome_41 rfl (lv_at hl 0 rfl) ?_
      refine lv_iconst (v := (-1)) hx hb dX0_statusAheadOfOutcome_42 (by decide) ?_
      refine lv_icmp_eq (tgt := 48) hx hb dX0_statusAheadOfOutcome_43 (by decide) (fun c_13 => ?_) (fun c_13 => ?_)
      · refine lv_iload_n hx hb dX0_statusAheadOfOutcome_48 rfl (lv_at hl 2 rfl) ?_
        refine lv_iconst (v := 3) hx hb dX0_statusAheadOfOutcome_49 (by decide) ?_
        refine lv_icmp_ne (tgt := 70) hx hb dX0_statusAheadOfOutcome_50 (by decide) (fun c_14 => ?_) (fun c_14 => ?_)
        · refine lv_iload_n hx hb dX0_statusAheadOfOutcome_70 rfl (lv_at hl 2 rfl) ?_
          refine lv_if_ne (tgt := 93) hx hb dX0_statusAheadOfOutcome_71 (by decide) (fun c_15 => ?_) (fun c_15 => ?_)
          · refine lv_iconst (v := (-1)) hx hb dX0_statusAheadOfOutcome_93 (by decide) ?_
            have hP9 := hP.sub (ws' := [(h0, .inr (0, [.int a0, .int a1, .int a2, .int a3, .int a4, .int a5, .int a6, .int a7, .int a8, .int a9, .int a10, .int a11]))]) [0] rfl
            have hD9 := hD.sub (ws' := [(h0, .inr (0, [.int a0, .int a1, .int a2, .int a3, .int a4, .int a5, .int a6, .int a7, .int a8, .int a9, .int a10, .int a11]))]) [0] (by decide) rfl
            have hK9 := hK.sub (tys' := []) [] rfl
            have ef : fx_X0_statusAheadOfOutcome a0 a1 a2 a4 a6 p0 = (-1) := by unfold fx_X0_statusAheadOfOutcome; rw [if_neg c_1, if_pos c_2, if_neg c_9, if_neg c_10, if_neg c_11, if_pos c_13, if_neg c_14, if_neg c_15]
            exact W.iret (v := (-1)) hx hb hr (fun t ht hW => ⟨⟨(-1), [(h0, .inr (0, [.int a0, .int a1, .int a2, .int a3, .int a4, .int a5, .int a6, .int a7, .int a8, .int a9, .int a10, .int a11]))], rfl, ⟨ef.symm, rfl⟩, by rw [ht]; exact hP9, va_K.moved hW.alike hK9, hD9⟩, hS.F ht⟩) hS.2.2 dX0_statusAheadOfOutcome_94
          refine lv_aload_n hx hb dX0_statusAheadOfOutcome_74 rfl (lv_at hl 1 rfl) ?_
          refine va_get (D := (dC, dI)) (ci := 0) (v := .int a4) (C := RX0) (T := TX0) (N := 12) hx hb hts (fun _ h => List.mem_cons_of_mem _ (List.mem_append_right _ h)) hown hK hP 0 rfl rfl 4 (by decide) (hts (.fieldLink RX0 20 "FileStatus" "place" "I") (by decide +kernel)) (fun _ h9 => h9) rfl dX0_statusAheadOfOutcome_75 ?_
          refine lv_iconst (v := 2) hx hb dX0_statusAheadOfOutcome_78 (by decide) ?_
          refine lv_icmp_eq (tgt := 90) hx hb dX0_statusAheadOfOutcome_79 (by decide) (fun c_16 => ?_) (fun c_16 => ?_)
          · refine lv_bipush (v := 46) hx hb dX0_statusAheadOfOutcome_90 (by decide) ?_
            have hP9 := hP.sub (ws' := [(h0, .inr (0, [.int a0, .int a1, .int a2, .int a3, .int a4, .int a5, .int a6, .int a7, .int a8, .int a9, .int a10, .int a11]))]) [0] rfl
            have hD9 := hD.sub (ws' := [(h0, .inr (0, [.int a0, .int a1, .int a2, .int a3, .int a4, .int a5, .int a6, .int a7, .int a8, .int a9, .int a10, .int a11]))]) [0] (by decide) rfl
            have hK9 := hK.sub (tys' := []) [] rfl
            have ef : fx_X0_statusAheadOfOutcome a0 a1 a2 a4 a6 p0 = 46 := by unfold fx_X0_statusAheadOfOutcome; rw [if_neg c_1, if_pos c_2, if_neg c_9, if_neg c_10, if_neg c_11, if_pos c_13, if_neg c_14, if_pos c_15, if_pos c_16]
            exact W.iret (v := 46) hx hb hr (fun t ht hW => ⟨⟨46, [(h0, .inr (0, [.int a0, .int a1, .int a2, .int a3, .int a4, .int a5, .int a6, .int a7, .int a8, .int a9, .int a10, .int a11]))], rfl, ⟨ef.symm, rfl⟩, by rw [ht]; exact hP9, va_K.moved hW.alike hK9, hD9⟩, hS.F ht⟩) hS.2.2 dX0_statusAheadOfOutcome_92
          refine lv_aload_n hx hb dX0_statusAheadOfOutcome_82 rfl (lv_at hl 1 rfl) ?_
          refine va_get (D := (dC, dI)) (ci := 0) (v := .int a4) (C := RX0) (T := TX0) (N := 12) hx hb hts (fun _ h => List.mem_cons_of_mem _ (List.mem_append_right _ h)) hown hK hP 0 rfl rfl 4 (by decide) (hts (.fieldLink RX0 20 "FileStatus" "place" "I") (by decide +kernel)) (fun _ h9 => h9) rfl dX0_statusAheadOfOutcome_83 ?_
          refine lv_iconst (v := 3) hx hb dX0_statusAheadOfOutcome_86 (by decide) ?_
          refine lv_icmp_ne (tgt := 93) hx hb dX0_statusAheadOfOutcome_87 (by decide) (fun c_17 => ?_) (fun c_17 => ?_)
          · refine lv_iconst (v := (-1)) hx hb dX0_statusAheadOfOutcome_93 (by decide) ?_
            have hP9 := hP.sub (ws' := [(h0, .inr (0, [.int a0, .int a1, .int a2, .int a3, .int a4, .int a5, .int a6, .int a7, .int a8, .int a9, .int a10, .int a11]))]) [0] rfl
            have hD9 := hD.sub (ws' := [(h0, .inr (0, [.int a0, .int a1, .int a2, .int a3, .int a4, .int a5, .int a6, .int a7, .int a8, .int a9, .int a10, .int a11]))]) [0] (by decide) rfl
            have hK9 := hK.sub (tys' := []) [] rfl
            have ef : fx_X0_statusAheadOfOutcome a0 a1 a2 a4 a6 p0 = (-1) := by unfold fx_X0_statusAheadOfOutcome; rw [if_neg c_1, if_pos c_2, if_neg c_9, if_neg c_10, if_neg c_11, if_pos c_13, if_neg c_14, if_pos c_15, if_neg c_16, if_neg c_17]
            exact W.iret (v := (-1)) hx hb hr (fun t ht hW => ⟨⟨(-1), [(h0, .inr (0, [.int a0, .int a1, .int a2, .int a3, .int a4, .int a5, .int a6, .int a7, .int a8, .int a9, .int a10, .int a11]))], rfl, ⟨ef.symm, rfl⟩, by rw [ht]; exact hP9, va_K.moved hW.alike hK9, hD9⟩, hS.F ht⟩) hS.2.2 dX0_statusAheadOfOutcome_94
          refine lv_bipush (v := 46) hx hb dX0_statusAheadOfOutcome_90 (by decide) ?_
          have hP9 := hP.sub (ws' := [(h0, .inr (0, [.int a0, .int a1, .int a2, .int a3, .int a4, .int a5, .int a6, .int a7, .int a8, .int a9, .int a10, .int a11]))]) [0] rfl
          have hD9 := hD.sub (ws' := [(h0, .inr (0, [.int a0, .int a1, .int a2, .int a3, .int a4, .int a5, .int a6, .int a7, .int a8, .int a9, .int a10, .int a11]))]) [0] (by decide) rfl
          have hK9 := hK.sub (tys' := []) [] rfl
          have ef : fx_X0_statusAheadOfOutcome a0 a1 a2 a4 a6 p0 = 46 := by unfold fx_X0_statusAheadOfOutcome; rw [if_neg c_1, if_pos c_2, if_neg c_9, if_neg c_10, if_neg c_11, if_pos c_13, if_neg c_14, if_pos c_15, if_neg c_16, if_pos c_17]
          exact W.iret (v := 46) hx hb hr (fun t ht hW => ⟨⟨46, [(h0, .inr (0, [.int a0, .int a1, .int a2, .int a3, .int a4, .int a5, .int a6, .int a7, .int a8, .int a9, .int a10, .int a11]))], rfl, ⟨ef.symm, rfl⟩, by rw [ht]; exact hP9, va_K.moved hW.alike hK9, hD9⟩, hS.F ht⟩) hS.2.2 dX0_statusAheadOfOutcome_92
        refine lv_aload_n hx hb dX0_statusAheadOfOutcome_53 rfl (lv_at hl 1 rfl) ?_
        refine va_get (D := (dC, dI)) (ci := 0) (v := .int a0) (C := RX0) (T := TX0) (N := 12) hx hb hts (fun _ h => List.mem_cons_of_mem _ (List.mem_append_right _ h)) hown hK hP 0 rfl rfl 0 (by decide) (hts (.fieldLink RX0 53 "FileStatus" "organisation" "I") (by decide +kernel)) (fun _ h9 => h9) rfl dX0_statusAheadOfOutcome_54 ?_
        refine lv_if_ne (tgt := 70) hx hb dX0_statusAheadOfOutcome_57 (by decide) (fun c9 => absurd c_2 c9) (fun c9 => ?_)
        refine lv_aload_n hx hb dX0_statusAheadOfOutcome_60 rfl (lv_at hl 1 rfl) ?_
        refine va_get (D := (dC, dI)) (ci := 0) (v := .int a6) (C := RX0) (T := TX0) (N := 12) hx hb hts (fun _ h => List.mem_cons_of_mem _ (List.mem_append_right _ h)) hown hK hP 0 rfl rfl 6 (by decide) (hts (.fieldLink RX0 26 "FileStatus" "permit" "Z") (by decide +kernel)) (fun _ h9 => h9) rfl dX0_statusAheadOfOutcome_61 ?_
        refine lv_if_ne (tgt := 70) hx hb dX0_statusAheadOfOutcome_64 (by decide) (fun c_18 => ?_) (fun c_18 => ?_)
        · refine lv_iload_n hx hb dX0_statusAheadOfOutcome_70 rfl (lv_at hl 2 rfl) ?_
          refine lv_if_ne (tgt := 93) hx hb dX0_statusAheadOfOutcome_71 (by decide) (fun c9 => ?_) (fun c9 => absurd (c_14.symm.trans c9) (by decide))
          refine lv_iconst (v := (-1)) hx hb dX0_statusAheadOfOutcome_93 (by decide) ?_
          have hP9 := hP.sub (ws' := [(h0, .inr (0, [.int a0, .int a1, .int a2, .int a3, .int a4, .int a5, .int a6, .int a7, .int a8, .int a9, .int a10, .int a11]))]) [0] rfl
          have hD9 := hD.sub (ws' := [(h0, .inr (0, [.int a0, .int a1, .int a2, .int a3, .int a4, .int a5, .int a6, .int a7, .int a8, .int a9, .int a10, .int a11]))]) [0] (by decide) rfl
          have hK9 := hK.sub (tys' := []) [] rfl
          have ef : fx_X0_statusAheadOfOutcome a0 a1 a2 a4 a6 p0 = (-1) := by unfold fx_X0_statusAheadOfOutcome; rw [if_neg c_1, if_pos c_2, if_neg c_9, if_neg c_10, if_neg c_11, if_pos c_13, if_pos c_14, if_neg c_18]
          exact W.iret (v := (-1)) hx hb hr (fun t ht hW => ⟨⟨(-1), [(h0, .inr (0, [.int a0, .int a1, .int a2, .int a3, .int a4, .int a5, .int a6, .int a7, .int a8, .int a9, .int a10, .int a11]))], rfl, ⟨ef.symm, rfl⟩, by rw [ht]; exact hP9, va_K.moved hW.alike hK9, hD9⟩, hS.F ht⟩) hS.2.2 dX0_statusAheadOfOutcome_94
        refine lv_bipush (v := 43) hx hb dX0_statusAheadOfOutcome_67 (by decide) ?_
        have hP9 := hP.sub (ws' := [(h0, .inr (0, [.int a0, .int a1, .int a2, .int a3, .int a4, .int a5, .int a6, .int a7, .int a8, .int a9, .int a10, .int a11]))]) [0] rfl
        have hD9 := hD.sub (ws' := [(h0, .inr (0, [.int a0, .int a1, .int a2, .int a3, .int a4, .int a5, .int a6, .int a7, .int a8, .int a9, .int a10, .int a11]))]) [0] (by decide) rfl
        have hK9 := hK.sub (tys' := []) [] rfl
        have ef : fx_X0_statusAheadOfOutcome a0 a1 a2 a4 a6 p0 = 43 := by unfold fx_X0_statusAheadOfOutcome; rw [if_neg c_1, if_pos c_2, if_neg c_9, if_neg c_10, if_neg c_11, if_pos c_13, if_pos c_14, if_pos c_18]
        exact W.iret (v := 43) hx hb hr (fun t ht hW => ⟨⟨43, [(h0, .inr (0, [.int a0, .int a1, .int a2, .int a3, .int a4, .int a5, .int a6, .int a7, .int a8, .int a9, .int a10, .int a11]))], rfl, ⟨ef.symm, rfl⟩, by rw [ht]; exact hP9, va_K.moved hW.alike hK9, hD9⟩, hS.F ht⟩) hS.2.2 dX0_statusAheadOfOutcome_69
      refine lv_iload_n hx hb dX0_statusAheadOfOutcome_46 rfl (lv_at hl 0 rfl) ?_
      have hP9 := hP.sub (ws' := [(h0, .inr (0, [.int a0, .int a1, .int a2, .int a3, .int a4, .int a5, .int a6, .int a7, .int a8, .int a9, .int a10, .int a11]))]) [0] rfl
      have hD9 := hD.sub (ws' := [(h0, .inr (0, [.int a0, .int a1, .int a2, .int a3, .int a4, .int a5, .int a6, .int a7, .int a8, .int a9, .int a10, .int a11]))]) [0] (by decide) rfl
      have hK9 := hK.sub (tys' := []) [] rfl
      have ef : fx_X0_statusAheadOfOutcome a0 a1 a2 a4 a6 p0 = fx_X0_statusOfWrongMode a0 a1 p0 := by unfold fx_X0_statusAheadOfOutcome; rw [if_neg c_1, if_pos c_2, if_neg c_9, if_neg c_10, if_neg c_11, if_neg c_13]
      exact W.iret (v := fx_X0_statusOfWrongMode a0 a1 p0) hx hb hr (fun t ht hW => ⟨⟨(fx_X0_statusOfWrongMode a0 a1 p0), [(h0, .inr (0, [.int a0, .int a1, .int a2, .int a3, .int a4, .int a5, .int a6, .int a7, .int a8, .int a9, .int a10, .int a11]))], rfl, ⟨ef.symm, rfl⟩, by rw [ht]; exact hP9, va_K.moved hW.alike hK9, hD9⟩, hS.F ht⟩) hS.2.2 dX0_statusAheadOfOutcome_47
    refine lv_bipush (v := 90) hx hb dX0_statusAheadOfOutcome_32 (by decide) ?_
    have hP9 := hP.sub (ws' := [(h0, .inr (0, [.int a0, .int a1, .int a2, .int a3, .int a4, .int a5, .int a6, .int a7, .int a8, .int a9, .int a10, .int a11]))]) [0] rfl
    have hD9 := hD.sub (ws' := [(h0, .inr (0, [.int a0, .int a1, .int a2, .int a3, .int a4, .int a5, .int a6, .int a7, .int a8, .int a9, .int a10, .int a11]))]) [0] (by decide) rfl
    have hK9 := hK.sub (tys' := []) [] rfl
    have ef : fx_X0_statusAheadOfOutcome a0 a1 a2 a4 a6 p0 = 90 := by unfold fx_X0_statusAheadOfOutcome; rw [if_neg c_1, if_pos c_2, if_neg c_9, if_neg c_10, if_pos c_11]
    exact W.iret (v := 90) hx hb hr (fun t ht hW => ⟨⟨90, [(h0, .inr (0, [.int a0, .int a1, .int a2, .int a3, .int a4, .int a5, .int a6, .int a7, .int a8, .int a9, .int a10, .int a11]))], rfl, ⟨ef.symm, rfl⟩, by rw [ht]; exact hP9, va_K.moved hW.alike hK9, hD9⟩, hS.F ht⟩) hS.2.2 dX0_statusAheadOfOutcome_34
  refine lv_bipush (v := 42) hx hb dX0_statusAheadOfOutcome_7 (by decide) ?_
  have hP9 := hP.sub (ws' := [(h0, .inr (0, [.int a0, .int a1, .int a2, .int a3, .int a4, .int a5, .int a6, .int a7, .int a8, .int a9, .int a10, .int a11]))]) [0] rfl
  have hD9 := hD.sub (ws' := [(h0, .inr (0, [.int a0, .int a1, .int a2, .int a3, .int a4, .int a5, .int a6, .int a7, .int a8, .int a9, .int a10, .int a11]))]) [0] (by decide) rfl
  have hK9 := hK.sub (tys' := []) [] rfl
  have ef : fx_X0_statusAheadOfOutcome a0 a1 a2 a4 a6 p0 = 42 := by unfold fx_X0_statusAheadOfOutcome; rw [if_pos c_1]
  exact W.iret (v := 42) hx hb hr (fun t ht hW => ⟨⟨42, [(h0, .inr (0, [.int a0, .int a1, .int a2, .int a3, .int a4, .int a5, .int a6, .int a7, .int a8, .int a9, .int a10, .int a11]))], rfl, ⟨ef.symm, rfl⟩, by rw [ht]; exact hP9, va_K.moved hW.alike hK9, hD9⟩, hS.F ht⟩) hS.2.2 dX0_statusAheadOfOutcome_9
set_option maxHeartbeats 4000000 in
set_option maxRecDepth 100000 in
theorem ct_X0_statusByOutcome (l : Launch) (dC : Nat → ClassId) (dI : Nat → Nat → Nat) (h0 : Nat) (sz : Nat) (a0 a1 a2 a3 a4 a5 a6 a7 a8 a9 a10 a11 p0 p1 : Int32) : Met l yX0_statusByOutcome wsX0_statusByOutcome ({ frames := 2, cells := 0, slots := 0, locals := 41 }) (va_Pc [.ref h0, .int p0, .int p1] (fun U => U.heap.size = sz ∧ va_P (dC, dI) vwCl [(h0, .inr (0, [.int a0, .int a1, .int a2, .int a3, .int a4, .int a5, .int a6, .int a7, .int a8, .int a9, .int a10, .int a11]))] U.heap ∧ va_K (dC, dI) vwCl [] U ∧ va_D (fun _ => True) [(h0, .inr (0, [.int a0, .int a1, .int a2, .int a3, .int a4, .int a5, .int a6, .int a7, .int a8, .int a9, .int a10, .int a11]))])) (va_Qi (fun (r : Int32) (u : va_W) => r = fx_X0_statusByOutcome a0 p0 p1 ∧ u = [(h0, .inr (0, [.int a0, .int a1, .int a2, .int a3, .int a4, .int a5, .int a6, .int a7, .int a8, .int a9, .int a10, .int a11]))]) (at_W dC dI (va_A [(h0, .inr (0, [.int a0, .int a1, .int a2, .int a3, .int a4, .int a5, .int a6, .int a7, .int a8, .int a9, .int a10, .int a11]))] sz)) (va_A [(h0, .inr (0, [.int a0, .int a1, .int a2, .int a3, .int a4, .int a5, .int a6, .int a7, .int a8, .int a9, .int a10, .int a11]))] sz)) 0 0 (va_A [(h0, .inr (0, [.int a0, .int a1, .int a2, .int a3, .int a4, .int a5, .int a6, .int a7, .int a8, .int a9, .int a10, .int a11]))] sz) := by
  refine Met.ofW (cc := cX0_statusByOutcome) (maxL := 3) (ret := (some .int)) (by decide) rfl ?_
  intro p e s m args below meth c s₁ B hml hv
  obtain ⟨rfl, hsz, hP, hK, hD0⟩ := hv
  have hx := B.exec
  have hb := B.bytes
  have hr := B.returns
  have hts := atoms_spec (ws := wsX0_statusByOutcome) B.pre
  have hown : s.vm.findClass RX0 = some m.cls := findClass_of_methodNamed B.named
  have hlocks := B.notSynchronized
  subst hsz
  have hD := hD0.self (sz := s.heap.size)
  generalize hAe : va_A [(h0, .inr (0, [.int a0, .int a1, .int a2, .int a3, .int a4, .int a5, .int a6, .int a7, .int a8, .int a9, .int a10, .int a11]))] s.heap.size = A at hD ⊢
  have hA : ∀ q : Nat, s.heap.size ≤ q → A q := fun q h => by rw [← hAe]; exact Or.inr h
  have hS : va_S A s.heap s.heap [] := va_S.rf
  have hP : va_P (dC, dI) vwCl [(h0, .inr (0, [.int a0, .int a1, .int a2, .int a3, .int a4, .int a5, .int a6, .int a7, .int a8, .int a9, .int a10, .int a11]))] s.heap := hP
  have hl := lv_entry ([.ref h0, .int p0, .int p1]) (n := 3) (Nat.le_of_ble_eq_true rfl)
  rw [lg_entry_eq]
  generalize (lg_sl ([.ref h0, .int p0, .int p1]) ++ List.replicate (3 - (lg_sl ([.ref h0, .int p0, .int p1])).length) Slot.unset).toArray = ls at hl ⊢
  have hl : lv_has ls 3 [(0, .ref h0), (1, .int p0), (2, .int p1)] := hl
  refine lv_iload_n hx hb dX0_statusByOutcome_0 rfl (lv_at hl 2 rfl) ?_
  by_cases c_1 : p1 = 0
  · refine lv_tableIn (off := 51) (tgt := 52) hx hb dX0_statusByOutcome_1 (by rw [c_1]; decide) (by rw [c_1]; decide) (by rw [c_1]; rfl) (by decide) ?_
    refine lv_iconst (v := 0) hx hb dX0_statusByOutcome_52 (by decide) ?_
    have hP9 := hP.sub (ws' := [(h0, .inr (0, [.int a0, .int a1, .int a2, .int a3, .int a4, .int a5, .int a6, .int a7, .int a8, .int a9, .int a10, .int a11]))]) [0] rfl
    have hD9 := hD.sub (ws' := [(h0, .inr (0, [.int a0, .int a1, .int a2, .int a3, .int a4, .int a5, .int a6, .int a7, .int a8, .int a9, .int a10, .int a11]))]) [0] (by decide) rfl
    have hK9 := hK.sub (tys' := []) [] rfl
    have ef : fx_X0_statusByOutcome a0 p0 p1 = 0 := by unfold fx_X0_statusByOutcome; rw [if_pos c_1]
    exact W.iret (v := 0) hx hb hr (fun t ht hW => ⟨⟨0, [(h0, .inr (0, [.int a0, .int a1, .int a2, .int a3, .int a4, .int a5, .int a6, .int a7, .int a8, .int a9, .int a10, .int a11]))], rfl, ⟨ef.symm, rfl⟩, by rw [ht]; exact hP9, va_K.moved hW.alike hK9, hD9⟩, hS.F ht⟩) hS.2.2 dX0_statusByOutcome_53
  by_cases c_2 : p1 = 1
  · refine lv_tableIn (off := 53) (tgt := 54) hx hb dX0_statusByOutcome_1 (by rw [c_2]; decide) (by rw [c_2]; decide) (by rw [c_2]; rfl) (by decide) ?_
    refine lv_aload_n hx hb dX0_statusByOutcome_54 rfl (lv_at hl 0 rfl) ?_
    refine lv_iload_n hx hb dX0_statusByOutcome_55 rfl (lv_at hl 1 rfl) ?_
    have hPc := hP.sub (ws' := [(h0, .inr (0, [.int a0, .int a1, .int a2, .int a3, .int a4, .int a5, .int a6, .int a7, .int a8, .int a9, .int a10, .int a11]))]) [0] rfl
    have hDc := hD.sub (ws' := [(h0, .inr (0, [.int a0, .int a1, .int a2, .int a3, .int a4, .int a5, .int a6, .int a7, .int a8, .int a9, .int a10, .int a11]))]) [0] (by decide) rfl
    have hKc := hK.sub (tys' := []) [] rfl
    have hFc := va_free (wc := [(h0, .inr (0, [.int a0, .int a1, .int a2, .int a3, .int a4, .int a5, .int a6, .int a7, .int a8, .int a9, .int a10, .int a11]))]) hD hS hA [0] rfl
    refine va_calli (va_runV (As := [.int p0]) (rest := []) ⟨hx, hb, hml, hown, hts⟩ (ct_X0_statusOfNoRecord l dC dI h0 s.heap.size a0 a1 a2 a3 a4 a5 a6 a7 a8 a9 a10 a11 p0) (cwV 1 hts gX0_statusByOutcome_X0_statusOfNoRecord rfl rfl rfl (by decide +kernel) ⟨Nat.le_of_ble_eq_true rfl, Nat.le_of_ble_eq_true rfl⟩) ⟨fun a U g mk q => by obtain ⟨q0, q1, qP, qK, qD⟩ := q; exact ⟨q0, q1, qP, va_K.moved (u := U) (U := U.calling g mk a) (Vm.Alike.refl U.vm) qK, qD⟩, va_recv hKc hPc (ci := 0) (q0 := 0) rfl rfl, fun U hU hW => ⟨rfl, by rw [hU], by rw [hU]; exact hPc, va_K.moved hW.alike hKc, hDc.weaken (fun _ _ _ _ => trivial)⟩⟩ rfl rfl hl.1 rfl (lv_room (Nat.le_of_ble_eq_true rfl)) dX0_statusByOutcome_56 ⟨(Nat.zero_le _), (Nat.zero_le _)⟩) hS (fun q _ h => hFc q h) hFc (fun r_3 u t H1 locs ht hvm hw hB hz1 hk1 hS => ?_)
    obtain ⟨er, hu⟩ := hw
    subst hu
    subst er
    obtain ⟨hP1, hK1, hD1⟩ := hB
    rw [ht] at hP1
    have hK1 := va_K.moved hvm.symm hK1
    obtain ⟨hP, hD⟩ := va_join (wr := []) (w1 := [(h0, .inr (0, [.int a0, .int a1, .int a2, .int a3, .int a4, .int a5, .int a6, .int a7, .int a8, .int a9, .int a10, .int a11]))]) hP hD [0] [] rfl rfl (by decide) (by decide) hk1 hFc hP1 hD1
    have hK := (hK.sub (tys' := []) [] rfl).app hK1
    generalize H1 = H at hP hS ⊢
    have hP : va_P (dC, dI) vwCl [(h0, .inr (0, [.int a0, .int a1, .int a2, .int a3, .int a4, .int a5, .int a6, .int a7, .int a8, .int a9, .int a10, .int a11]))] H := hP
    have hD : va_D A [(h0, .inr (0, [.int a0, .int a1, .int a2, .int a3, .int a4, .int a5, .int a6, .int a7, .int a8, .int a9, .int a10, .int a11]))] := hD
    have hK : va_K (dC, dI) vwCl [] s := hK
    have hP9 := hP.sub (ws' := [(h0, .inr (0, [.int a0, .int a1, .int a2, .int a3, .int a4, .int a5, .int a6, .int a7, .int a8, .int a9, .int a10, .int a11]))]) [0] rfl
    have hD9 := hD.sub (ws' := [(h0, .inr (0, [.int a0, .int a1, .int a2, .int a3, .int a4, .int a5, .int a6, .int a7, .int a8, .int a9, .int a10, .int a11]))]) [0] (by decide) rfl
    have hK9 := hK.sub (tys' := []) [] rfl
    have ef : fx_X0_statusByOutcome a0 p0 p1 = fx_X0_statusOfNoRecord a0 p0 := by unfold fx_X0_statusByOutcome; rw [if_neg c_1, if_pos c_2]
    exact W.iret (v := fx_X0_statusOfNoRecord a0 p0) hx hb hr (fun t ht hW => ⟨⟨(fx_X0_statusOfNoRecord a0 p0), [(h0, .inr (0, [.int a0, .int a1, .int a2, .int a3, .int a4, .int a5, .int a6, .int a7, .int a8, .int a9, .int a10, .int a11]))], rfl, ⟨ef.symm, rfl⟩, by rw [ht]; exact hP9, va_K.moved hW.alike hK9, hD9⟩, hS.F ht⟩) hS.2.2 dX0_statusByOutcome_59
  by_cases c_4 : p1 = 2
  · refine lv_tableIn (off := 59) (tgt := 60) hx hb dX0_statusByOutcome_1 (by rw [c_4]; decide) (by rw [c_4]; decide) (by rw [c_4]; rfl) (by decide) ?_
    refine lv_aload_n hx hb dX0_statusByOutcome_60 rfl (lv_at hl 0 rfl) ?_
    refine va_get (D := (dC, dI)) (ci := 0) (v := .int a0) (C := RX0) (T := TX0) (N := 12) hx hb hts (fun _ h => List.mem_cons_of_mem _ (List.mem_append_right _ h)) hown hK hP 0 rfl rfl 0 (by decide) (hts (.fieldLink RX0 53 "FileStatus" "organisation" "I") (by decide +kernel)) (fun _ h9 => h9) rfl dX0_statusByOutcome_61 ?_
    refine lv_iconst (v := 2) hx hb dX0_statusByOutcome_64 (by decide) ?_
    refine lv_icmp_ne (tgt := 77) hx hb dX0_statusByOutcome_65 (by decide) (fun c_5 => ?_) (fun c_5 => ?_)
    · refine lv_bipush (v := 90) hx hb dX0_statusByOutcome_77 (by decide) ?_
      have hP9 := hP.sub (ws' := [(h0, .inr (0, [.int a0, .int a1, .int a2, .int a3, .int a4, .int a5, .int a6, .int a7, .int a8, .int a9, .int a10, .int a11]))]) [0] rfl
      have hD9 := hD.sub (ws' := [(h0, .inr (0, [.int a0, .int a1, .int a2, .int a3, .int a4, .int a5, .int a6, .int a7, .int a8, .int a9, .int a10, .int a11]))]) [0] (by decide) rfl
      have hK9 := hK.sub (tys' := []) [] rfl
      have ef : fx_X0_statusByOutcome a0 p0 p1 = 90 := by unfold fx_X0_statusByOutcome; rw [if_neg c_1, if_neg c_2, if_pos c_4, if_neg c_5]
      exact W.iret (v := 90) hx hb hr (fun t ht hW => ⟨⟨90, [(h0, .inr (0, [.int a0, .int a1, .int a2, .int a3, .int a4, .int a5, .int a6, .int a7, .int a8, .int a9, .int a10, .int a11]))], rfl, ⟨ef.symm, rfl⟩, by rw [ht]; exact hP9, va_K.moved hW.alike hK9, hD9⟩, hS.F ht⟩) hS.2.2 dX0_statusByOutcome_79
    refine lv_iload_n hx hb dX0_statusByOutcome_68 rfl (lv_at hl 1 rfl) ?_
    refine lv_iconst (v := 3) hx hb dX0_statusByOutcome_69 (by decide) ?_
    refine lv_icmp_gt (tgt := 77) hx hb dX0_statusByOutcome_70 (by decide) (fun c_6 => ?_) (fun c_6 => ?_)
    · refine lv_bipush (v := 90) hx hb dX0_statusByOutcome_77 (by decide) ?_
      have hP9 := hP.sub (ws' := [(h0, .inr (0, [.int a0, .int a1, .int a2, .int a3, .int a4, .int a5, .int a6, .int a7, .int a8, .int a9, .int a10, .int a11]))]) [0] rfl
      have hD9 := hD.sub (ws' := [(h0, .inr (0, [.int a0, .int a1, .int a2, .int a3, .int a4, .int a5, .int a6, .int a7, .int a8, .int a9, .int a10, .int a11]))]) [0] (by decide) rfl
      have hK9 := hK.sub (tys' := []) [] rfl
      have ef : fx_X0_statusByOutcome a0 p0 p1 = 90 := by unfold fx_X0_statusByOutcome; rw [if_neg c_1, if_neg c_2, if_pos c_4, if_pos c_5, if_pos c_6]
      exact W.iret (v := 90) hx hb hr (fun t ht hW => ⟨⟨90, [(h0, .inr (0, [.int a0, .int a1, .int a2, .int a3, .int a4, .int a5, .int a6, .int a7, .int a8, .int a9, .int a10, .int a11]))], rfl, ⟨ef.symm, rfl⟩, by rw [ht]; exact hP9, va_K.moved hW.alike hK9, hD9⟩, hS.F ht⟩) hS.2.2 dX0_statusByOutcome_79
    refine lv_iconst (v := 2) hx hb dX0_statusByOutcome_73 (by decide) ?_
    refine lv_goto (tgt := 79) hx hb dX0_statusByOutcome_74 (by decide) ?_
    have hP9 := hP.sub (ws' := [(h0, .inr (0, [.int a0, .int a1, .int a2, .int a3, .int a4, .int a5, .int a6, .int a7, .int a8, .int a9, .int a10, .int a11]))]) [0] rfl
    have hD9 := hD.sub (ws' := [(h0, .inr (0, [.int a0, .int a1, .int a2, .int a3, .int a4, .int a5, .int a6, .int a7, .int a8, .int a9, .int a10, .int a11]))]) [0] (by decide) rfl
    have hK9 := hK.sub (tys' := []) [] rfl
    have ef : fx_X0_statusByOutcome a0 p0 p1 = 2 := by unfold fx_X0_statusByOutcome; rw [if_neg c_1, if_neg c_2, if_pos c_4, if_pos c_5, if_neg c_6]
    exact W.iret (v := 2) hx hb hr (fun t ht hW => ⟨⟨2, [(h0, .inr (0, [.int a0, .int a1, .int a2, .int a3, .int a4, .int a5, .int a6, .int a7, .int a8, .int a9, .int a10, .int a11]))], rfl, ⟨ef.symm, rfl⟩, by rw [ht]; exact hP9, va_K.moved hW.alike hK9, hD9⟩, hS.F ht⟩) hS.2.2 dX0_statusByOutcome_79
  by_cases c_7 : p1 = 3
  · refine lv_tableIn (off := 79) (tgt := 80) hx hb dX0_statusByOutcome_1 (by rw [c_7]; decide) (by rw [c_7]; decide) (by rw [c_7]; rfl) (by decide) ?_
    refine lv_aload_n hx hb dX0_statusByOutcome_80 rfl (lv_at hl 0 rfl) ?_
    refine lv_iload_n hx hb dX0_statusByOutcome_81 rfl (lv_at hl 1 rfl) ?_
    have hPc := hP.sub (ws' := [(h0, .inr (0, [.int a0, .int a1, .int a2, .int a3, .int a4, .int a5, .int a6, .int a7, .int a8, .int a9, .int a10, .int a11]))]) [0] rfl
    have hDc := hD.sub (ws' := [(h0, .inr (0, [.int a0, .int a1, .int a2, .int a3, .int a4, .int a5, .int a6, .int a7, .int a8, .int a9, .int a10, .int a11]))]) [0] (by decide) rfl
    have hKc := hK.sub (tys' := []) [] rfl
    have hFc := va_free (wc := [(h0, .inr (0, [.int a0, .int a1, .int a2, .int a3, .int a4, .int a5, .int a6, .int a7, .int a8, .int a9, .int a10, .int a11]))]) hD hS hA [0] rfl
    refine va_calli (va_runV (As := [.int p0]) (rest := []) ⟨hx, hb, hml, hown, hts⟩ (ct_X0_statusOfBarredDouble l dC dI h0 s.heap.size a0 a1 a2 a3 a4 a5 a6 a7 a8 a9 a10 a11 p0) (cwV 1 hts gX0_statusByOutcome_X0_statusOfBarredDouble rfl rfl rfl (by decide +kernel) ⟨Nat.le_of_ble_eq_true rfl, Nat.le_of_ble_eq_true rfl⟩) ⟨fun a U g mk q => by obtain ⟨q0, q1, qP, qK, qD⟩ := q; exact ⟨q0, q1, qP, va_K.moved (u := U) (U := U.calling g mk a) (Vm.Alike.refl U.vm) qK, qD⟩, va_recv hKc hPc (ci := 0) (q0 := 0) rfl rfl, fun U hU hW => ⟨rfl, by rw [hU], by rw [hU]; exact hPc, va_K.moved hW.alike hKc, hDc.weaken (fun _ _ _ _ => trivial)⟩⟩ rfl rfl hl.1 rfl (lv_room (Nat.le_of_ble_eq_true rfl)) dX0_statusByOutcome_82 ⟨(Nat.zero_le _), (Nat.zero_le _)⟩) hS (fun q _ h => hFc q h) hFc (fun r_8 u t H1 locs ht hvm hw hB hz1 hk1 hS => ?_)
    obtain ⟨er, hu⟩ := hw
    subst hu
    subst er
    obtain ⟨hP1, hK1, hD1⟩ := hB
    rw [ht] at hP1
    have hK1 := va_K.moved hvm.symm hK1
    obtain ⟨hP, hD⟩ := va_join (wr := []) (w1 := [(h0, .inr (0, [.int a0, .int a1, .int a2, .int a3, .int a4, .int a5, .int a6, .int a7, .int a8, .int a9, .int a10, .int a11]))]) hP hD [0] [] rfl rfl (by decide) (by decide) hk1 hFc hP1 hD1
    have hK := (hK.sub (tys' := []) [] rfl).app hK1
    generalize H1 = H at hP hS ⊢
    have hP : va_P (dC, dI) vwCl [(h0, .inr (0, [.int a0, .int a1, .int a2, .int a3, .int a4, .int a5, .int a6, .int a7, .int a8, .int a9, .int a10, .int a11]))] H := hP
    have hD : va_D A [(h0, .inr (0, [.int a0, .int a1, .int a2, .int a3, .int a4, .int a5, .int a6, .int a7, .int a8, .int a9, .int a10, .int a11]))] := hD
    have hK : va_K (dC, dI) vwCl [] s := hK
    have hP9 := hP.sub (ws' := [(h0, .inr (0, [.int a0, .int a1, .int a2, .int a3, .int a4, .int a5, .int a6, .int a7, .int a8, .int a9, .int a10, .int a11]))]) [0] rfl
    have hD9 := hD.sub (ws' := [(h0, .inr (0, [.int a0, .int a1, .int a2, .int a3, .int a4, .int a5, .int a6, .int a7, .int a8, .int a9, .int a10, .int a11]))]) [0] (by decide) rfl
    have hK9 := hK.sub (tys' := []) [] rfl
    have ef : fx_X0_statusByOutcome a0 p0 p1 = fx_X0_statusOfBarredDouble a0 p0 := by unfold fx_X0_statusByOutcome; rw [if_neg c_1, if_neg c_2, if_neg c_4, if_pos c_7]
    exact W.iret (v := fx_X0_statusOfBarredDouble a0 p0) hx hb hr (fun t ht hW => ⟨⟨(fx_X0_statusOfBarredDouble a0 p0), [(h0, .inr (0, [.int a0, .int a1, .int a2, .int a3, .int a4, .int a5, .int a6, .int a7, .int a8, .int a9, .int a10, .int a11]))], rfl, ⟨ef.symm, rfl⟩, by rw [ht]; exact hP9, va_K.moved hW.alike hK9, hD9⟩, hS.F ht⟩) hS.2.2 dX0_statusByOutcome_85
  by_cases c_9 : p1 = 4
  · refine lv_tableIn (off := 85) (tgt := 86) hx hb dX0_statusByOutcome_1 (by rw [c_9]; decide) (by rw [c_9]; decide) (by rw [c_9]; rfl) (by decide) ?_
    refine lv_aload_n hx hb dX0_statusByOutcome_86 rfl (lv_at hl 0 rfl) ?_
    refine lv_iload_n hx hb dX0_statusByOutcome_87 rfl (lv_at hl 1 rfl) ?_
    have hPc := hP.sub (ws' := [(h0, .inr (0, [.int a0, .int a1, .int a2, .int a3, .int a4, .int a5, .int a6, .int a7, .int a8, .int a9, .int a10, .int a11]))]) [0] rfl
    have hDc := hD.sub (ws' := [(h0, .inr (0, [.int a0, .int a1, .int a2, .int a3, .int a4, .int a5, .int a6, .int a7, .int a8, .int a9, .int a10, .int a11]))]) [0] (by decide) rfl
    have hKc := hK.sub (tys' := []) [] rfl
    have hFc := va_free (wc := [(h0, .inr (0, [.int a0, .int a1, .int a2, .int a3, .int a4, .int a5, .int a6, .int a7, .int a8, .int a9, .int a10, .int a11]))]) hD hS hA [0] rfl
    refine va_calli (va_runV (As := [.int p0]) (rest := []) ⟨hx, hb, hml, hown, hts⟩ (ct_X0_statusOfNoRoom l dC dI h0 s.heap.size a0 a1 a2 a3 a4 a5 a6 a7 a8 a9 a10 a11 p0) (cwV 1 hts gX0_statusByOutcome_X0_statusOfNoRoom rfl rfl rfl (by decide +kernel) ⟨Nat.le_of_ble_eq_true rfl, Nat.le_of_ble_eq_true rfl⟩) ⟨fun a U g mk q => by obtain ⟨q0, q1, qP, qK, qD⟩ := q; exact ⟨q0, q1, qP, va_K.moved (u := U) (U := U.calling g mk a) (Vm.Alike.refl U.vm) qK, qD⟩, va_recv hKc hPc (ci := 0) (q0 := 0) rfl rfl, fun U hU hW => ⟨rfl, by rw [hU], by rw [hU]; exact hPc, va_K.moved hW.alike hKc, hDc.weaken (fun _ _ _ _ => trivial)⟩⟩ rfl rfl hl.1 rfl (lv_room (Nat.le_of_ble_eq_true rfl)) dX0_statusByOutcome_88 ⟨(Nat.zero_le _), (Nat.zero_le _)⟩) hS (fun q _ h => hFc q h) hFc (fun r_10 u t H1 locs ht hvm hw hB hz1 hk1 hS => ?_)
    obtain ⟨er, hu⟩ := hw
    subst hu
    subst er
    obtain ⟨hP1, hK1, hD1⟩ := hB
    rw [ht] at hP1
    have hK1 := va_K.moved hvm.symm hK1
    obtain ⟨hP, hD⟩ := va_join (wr := []) (w1 := [(h0, .inr (0, [.int a0, .int a1, .int a2, .int a3, .int a4, .int a5, .int a6, .int a7, .int a8, .int a9, .int a10, .int a11]))]) hP hD [0] [] rfl rfl (by decide) (by decide) hk1 hFc hP1 hD1
    have hK := (hK.sub (tys' := []) [] rfl).app hK1
    generalize H1 = H at hP hS ⊢
    have hP : va_P (dC, dI) vwCl [(h0, .inr (0, [.int a0, .int a1, .int a2, .int a3, .int a4, .int a5, .int a6, .int a7, .int a8, .int a9, .int a10, .int a11]))] H := hP
    have hD : va_D A [(h0, .inr (0, [.int a0, .int a1, .int a2, .int a3, .int a4, .int a5, .int a6, .int a7, .int a8, .int a9, .int a10, .int a11]))] := hD
    have hK : va_K (dC, dI) vwCl [] s := hK
    have hP9 := hP.sub (ws' := [(h0, .inr (0, [.int a0, .int a1, .int a2, .int a3, .int a4, .int a5, .int a6, .int a7, .int a8, .int a9, .int a10, .int a11]))]) [0] rfl
    have hD9 := hD.sub (ws' := [(h0, .inr (0, [.int a0, .int a1, .int a2, .int a3, .int a4, .int a5, .int a6, .int a7, .int a8, .int a9, .int a10, .int a11]))]) [0] (by decide) rfl
    have hK9 := hK.sub (tys' := []) [] rfl
    have ef : fx_X0_statusByOutcome a0 p0 p1 = fx_X0_statusOfNoRoom a0 p0 := by unfold fx_X0_statusByOutcome; rw [if_neg c_1, if_neg c_2, if_neg c_4, if_neg c_7, if_pos c_9]
    exact W.iret (v := fx_X0_statusOfNoRoom a0 p0) hx hb hr (fun t ht hW => ⟨⟨(fx_X0_statusOfNoRoom a0 p0), [(h0, .inr (0, [.int a0, .int a1, .int a2, .int a3, .int a4, .int a5, .int a6, .int a7, .int a8, .int a9, .int a10, .int a11]))], rfl, ⟨ef.symm, rfl⟩, by rw [ht]; exact hP9, va_K.moved hW.alike hK9, hD9⟩, hS.F ht⟩) hS.2.2 dX0_statusByOutcome_91
  by_cases c_11 : p1 = 5
  · refine lv_tableIn (off := 91) (tgt := 92) hx hb dX0_statusByOutcome_1 (by rw [c_11]; decide) (by rw [c_11]; decide) (by rw [c_11]; rfl) (by decide) ?_
    refine lv_bipush (v := 30) hx hb dX0_statusByOutcome_92 (by decide) ?_
    have hP9 := hP.sub (ws' := [(h0, .inr (0, [.int a0, .int a1, .int a2, .int a3, .int a4, .int a5, .int a6, .int a7, .int a8, .int a9, .int a10, .int a11]))]) [0] rfl
    have hD9 := hD.sub (ws' := [(h0, .inr (0, [.int a0, .int a1, .int a2, .int a3, .int a4, .int a5, .int a6, .int a7, .int a8, .int a9, .int a10, .int a11]))]) [0] (by decide) rfl
    have hK9 := hK.sub (tys' := []) [] rfl
    have ef : fx_X0_statusByOutcome a0 p0 p1 = 30 := by unfold fx_X0_statusByOutcome; rw [if_neg c_1, if_neg c_2, if_neg c_4, if_neg c_7, if_neg c_9, if_pos c_11]
    exact W.iret (v := 30) hx hb hr (fun t ht hW => ⟨⟨30, [(h0, .inr (0, [.int a0, .int a1, .int a2, .int a3, .int a4, .int a5, .int a6, .int a7, .int a8, .int a9, .int a10, .int a11]))], rfl, ⟨ef.symm, rfl⟩, by rw [ht]; exact hP9, va_K.moved hW.alike hK9, hD9⟩, hS.F ht⟩) hS.2.2 dX0_statusByOutcome_94
  by_cases c_12 : p1 = 6
  · refine lv_tableIn (off := 94) (tgt := 95) hx hb dX0_statusByOutcome_1 (by rw [c_12]; decide) (by rw [c_12]; decide) (by rw [c_12]; rfl) (by decide) ?_
    refine lv_iload_n hx hb dX0_statusByOutcome_95 rfl (lv_at hl 1 rfl) ?_
    refine lv_bipush (v := 6) hx hb dX0_statusByOutcome_96 (by decide) ?_
    refine lv_icmp_ne (tgt := 106) hx hb dX0_statusByOutcome_98 (by decide) (fun c_13 => ?_) (fun c_13 => ?_)
    · refine lv_bipush (v := 51) hx hb dX0_statusByOutcome_106 (by decide) ?_
      have hP9 := hP.sub (ws' := [(h0, .inr (0, [.int a0, .int a1, .int a2, .int a3, .int a4, .int a5, .int a6, .int a7, .int a8, .int a9, .int a10, .int a11]))]) [0] rfl
      have hD9 := hD.sub (ws' := [(h0, .inr (0, [.int a0, .int a1, .int a2, .int a3, .int a4, .int a5, .int a6, .int a7, .int a8, .int a9, .int a10, .int a11]))]) [0] (by decide) rfl
      have hK9 := hK.sub (tys' := []) [] rfl
      have ef : fx_X0_statusByOutcome a0 p0 p1 = 51 := by unfold fx_X0_statusByOutcome; rw [if_neg c_1, if_neg c_2, if_neg c_4, if_neg c_7, if_neg c_9, if_neg c_11, if_pos c_12, if_neg c_13]
      exact W.iret (v := 51) hx hb hr (fun t ht hW => ⟨⟨51, [(h0, .inr (0, [.int a0, .int a1, .int a2, .int a3, .int a4, .int a5, .int a6, .int a7, .int a8, .int a9, .int a10, .int a11]))], rfl, ⟨ef.symm, rfl⟩, by rw [ht]; exact hP9, va_K.moved hW.alike hK9, hD9⟩, hS.F ht⟩) hS.2.2 dX0_statusByOutcome_108
    refine lv_bipush (v := 90) hx hb dX0_statusByOutcome_101 (by decide) ?_
    refine lv_goto (tgt := 108) hx hb dX0_statusByOutcome_103 (by decide) ?_
    have hP9 := hP.sub (ws' := [(h0, .inr (0, [.int a0, .int a1, .int a2, .int a3, .int a4, .int a5, .int a6, .int a7, .int a8, .int a9, .int a10, .int a11]))]) [0] rfl
    have hD9 := hD.sub (ws' := [(h0, .inr (0, [.int a0, .int a1, .int a2, .int a3, .int a4, .int a5, .int a6, .int a7, .int a8, .int a9, .int a10, .int a11]))]) [0] (by decide) rfl
    have hK9 := hK.sub (tys' := []) [] rfl
    have ef : fx_X0_statusByOutcome a0 p0 p1 = 90 := by unfold fx_X0_statusByOutcome; rw [if_neg c_1, if_neg c_2, if_neg c_4, if_neg c_7, if_neg c_9, if_neg c_11, if_pos c_12, if_pos c_13]
    exact W.iret (v := 90) hx hb hr (fun t ht hW => ⟨⟨90, [(h0, .inr (0, [.int a0, .int a1, .int a2, .int a3, .int a4, .int a5, .int a6, .int a7, .int a8, .int a9, .int a10, .int a11]))], rfl, ⟨ef.symm, rfl⟩, by rw [ht]; exact hP9, va_K.moved hW.alike hK9, hD9⟩, hS.F ht⟩) hS.2.2 dX0_statusByOutcome_108
  by_cases c_14 : p1 = 7
  · refine lv_tableIn (off := 108) (tgt := 109) hx hb dX0_statusByOutcome_1 (by rw [c_14]; decide) (by rw [c_14]; decide) (by rw [c_14]; rfl) (by decide) ?_
    refine lv_aload_n hx hb dX0_statusByOutcome_109 rfl (lv_at hl 0 rfl) ?_
    refine lv_iload_n hx hb dX0_statusByOutcome_110 rfl (lv_at hl 1 rfl) ?_
    have hPc := hP.sub (ws' := [(h0, .inr (0, [.int a0, .int a1, .int a2, .int a3, .int a4, .int a5, .int a6, .int a7, .int a8, .int a9, .int a10, .int a11]))]) [0] rfl
    have hDc := hD.sub (ws' := [(h0, .inr (0, [.int a0, .int a1, .int a2, .int a3, .int a4, .int a5, .int a6, .int a7, .int a8, .int a9, .int a10, .int a11]))]) [0] (by decide) rfl
    have hKc := hK.sub (tys' := []) [] rfl
    have hFc := va_free (wc := [(h0, .inr (0, [.int a0, .int a1, .int a2, .int a3, .int a4, .int a5, .int a6, .int a7, .int a8, .int a9, .int a10, .int a11]))]) hD hS hA [0] rfl
    refine va_calli (va_runV (As := [.int p0]) (rest := []) ⟨hx, hb, hml, hown, hts⟩ (ct_X0_statusOfLength l dC dI h0 s.heap.size a0 a1 a2 a3 a4 a5 a6 a7 a8 a9 a10 a11 p0) (cwV 1 hts gX0_statusByOutcome_X0_statusOfLength rfl rfl rfl (by decide +kernel) ⟨Nat.le_of_ble_eq_true rfl, Nat.le_of_ble_eq_true rfl⟩) ⟨fun a U g mk q => by obtain ⟨q0, q1, qP, qK, qD⟩ := q; exact ⟨q0, q1, qP, va_K.moved (u := U) (U := U.calling g mk a) (Vm.Alike.refl U.vm) qK, qD⟩, va_recv hKc hPc (ci := 0) (q0 := 0) rfl rfl, fun U hU hW => ⟨rfl, by rw [hU], by rw [hU]; exact hPc, va_K.moved hW.alike hKc, hDc.weaken (fun _ _ _ _ => trivial)⟩⟩ rfl rfl hl.1 rfl (lv_room (Nat.le_of_ble_eq_true rfl)) dX0_statusByOutcome_111 ⟨(Nat.zero_le _), (Nat.zero_le _)⟩) hS (fun q _ h => hFc q h) hFc (fun r_15 u t H1 locs ht hvm hw hB hz1 hk1 hS => ?_)
    obtain ⟨er, hu⟩ := hw
    subst hu
    subst er
    obtain ⟨hP1, hK1, hD1⟩ := hB
    rw [ht] at hP1
    have hK1 := va_K.moved hvm.symm hK1
    obtain ⟨hP, hD⟩ := va_join (wr := []) (w1 := [(h0, .inr (0, [.int a0, .int a1, .int a2, .int a3, .int a4, .int a5, .int a6, .int a7, .int a8, .int a9, .int a10, .int a11]))]) hP hD [0] [] rfl rfl (by decide) (by decide) hk1 hFc hP1 hD1
    have hK := (hK.sub (tys' := []) [] rfl).app hK1
    generalize H1 = H at hP hS ⊢
    have hP : va_P (dC, dI) vwCl [(h0, .inr (0, [.int a0, .int a1, .int a2, .int a3, .int a4, .int a5, .int a6, .int a7, .int a8, .int a9, .int a10, .int a11]))] H := hP
    have hD : va_D A [(h0, .inr (0, [.int a0, .int a1, .int a2, .int a3, .int a4, .int a5, .int a6, .int a7, .int a8, .int a9, .int a10, .int a11]))] := hD
    have hK : va_K (dC, dI) vwCl [] s := hK
    have hP9 := hP.sub (ws' := [(h0, .inr (0, [.int a0, .int a1, .int a2, .int a3, .int a4, .int a5, .int a6, .int a7, .int a8, .int a9, .int a10, .int a11]))]) [0] rfl
    have hD9 := hD.sub (ws' := [(h0, .inr (0, [.int a0, .int a1, .int a2, .int a3, .int a4, .int a5, .int a6, .int a7, .int a8, .int a9, .int a10, .int a11]))]) [0] (by decide) rfl
    have hK9 := hK.sub (tys' := []) [] rfl
    have ef : fx_X0_statusByOutcome a0 p0 p1 = fx_X0_statusOfLength p0 := by unfold fx_X0_statusByOutcome; rw [if_neg c_1, if_neg c_2, if_neg c_4, if_neg c_7, if_neg c_9, if_neg c_11, if_neg c_12, if_pos c_14]
    exact W.iret (v := fx_X0_statusOfLength p0) hx hb hr (fun t ht hW => ⟨⟨(fx_X0_statusOfLength p0), [(h0, .inr (0, [.int a0, .int a1, .int a2, .int a3, .int a4, .int a5, .int a6, .int a7, .int a8, .int a9, .int a10, .int a11]))], rfl, ⟨ef.symm, rfl⟩, by rw [ht]; exact hP9, va_K.moved hW.alike hK9, hD9⟩, hS.F ht⟩) hS.2.2 dX0_statusByOutcome_114
  by_cases c_16 : p1 = 8
  · refine lv_tableIn (off := 114) (tgt := 115) hx hb dX0_statusByOutcome_1 (by rw [c_16]; decide) (by rw [c_16]; decide) (by rw [c_16]; rfl) (by decide) ?_
    refine lv_aload_n hx hb dX0_statusByOutcome_115 rfl (lv_at hl 0 rfl) ?_
    refine va_get (D := (dC, dI)) (ci := 0) (v := .int a0) (C := RX0) (T := TX0) (N := 12) hx hb hts (fun _ h => List.mem_cons_of_mem _ (List.mem_append_right _ h)) hown hK hP 0 rfl rfl 0 (by decide) (hts (.fieldLink RX0 53 "FileStatus" "organisation" "I") (by decide +kernel)) (fun _ h9 => h9) rfl dX0_statusByOutcome_116 ?_
    refine lv_iconst (v := 2) hx hb dX0_statusByOutcome_119 (by decide) ?_
    refine lv_icmp_ne (tgt := 135) hx hb dX0_statusByOutcome_120 (by decide) (fun c_17 => ?_) (fun c_17 => ?_)
    · refine lv_bipush (v := 90) hx hb dX0_statusByOutcome_135 (by decide) ?_
      have hP9 := hP.sub (ws' := [(h0, .inr (0, [.int a0, .int a1, .int a2, .int a3, .int a4, .int a5, .int a6, .int a7, .int a8, .int a9, .int a10, .int a11]))]) [0] rfl
      have hD9 := hD.sub (ws' := [(h0, .inr (0, [.int a0, .int a1, .int a2, .int a3, .int a4, .int a5, .int a6, .int a7, .int a8, .int a9, .int a10, .int a11]))]) [0] (by decide) rfl
      have hK9 := hK.sub (tys' := []) [] rfl
      have ef : fx_X0_statusByOutcome a0 p0 p1 = 90 := by unfold fx_X0_statusByOutcome; rw [if_neg c_1, if_neg c_2, if_neg c_4, if_neg c_7, if_neg c_9, if_neg c_11, if_neg c_12, if_neg c_14, if_pos c_16, if_neg c_17]
      exact W.iret (v := 90) hx hb hr (fun t ht hW => ⟨⟨90, [(h0, .inr (0, [.int a0, .int a1, .int a2, .int a3, .int a4, .int a5, .int a6, .int a7, .int a8, .int a9, .int a10, .int a11]))], rfl, ⟨ef.symm, rfl⟩, by rw [ht]; exact hP9, va_K.moved hW.alike hK9, hD9⟩, hS.F ht⟩) hS.2.2 dX0_statusByOutcome_137
    refine lv_iload_n hx hb dX0_statusByOutcome_123 rfl (lv_at hl 1 rfl) ?_
    have hPc := hP.sub (ws' := []) [] rfl
    have hDc := hD.sub (ws' := []) [] (by decide) rfl
    have hKc := hK.sub (tys' := []) [] rfl
    have hFc := va_free (wc := []) hD hS hA [] rfl
    refine va_calli (va_runS (As := [.int p0]) (rest := []) ⟨hx, hb, hml, hown, hts⟩ (ct_X0_isWriteOrRewrite l dC dI s.heap.size p0) (va_cwS 1 hts gX0_statusByOutcome_X0_isWriteOrRewrite rfl rfl rfl (by decide +kernel) ⟨Nat.le_of_ble_eq_true rfl, Nat.le_of_ble_eq_true rfl⟩) ⟨fun a U g mk q => by obtain ⟨q0, q1, qP, qK, qD⟩ := q; exact ⟨q0, q1, qP, va_K.moved (u := U) (U := U.calling g mk a) (Vm.Alike.refl U.vm) qK, qD⟩, fun U hU hW => ⟨rfl, by rw [hU], by rw [hU]; exact hPc, va_K.moved hW.alike hKc, hDc.weaken (fun _ _ _ _ => trivial)⟩⟩ rfl rfl hl.1 rfl (lv_room (Nat.le_of_ble_eq_true rfl)) dX0_statusByOutcome_124 ⟨(Nat.zero_le _), (Nat.zero_le _)⟩) hS (fun q _ h => hFc q h) hFc (fun r_18 u t H1 locs ht hvm hw hB hz1 hk1 hS => ?_)
    obtain ⟨er, hu⟩ := hw
    subst hu
    subst er
    obtain ⟨hP1, hK1, hD1⟩ := hB
    rw [ht] at hP1
    have hK1 := va_K.moved hvm.symm hK1
    obtain ⟨hP, hD⟩ := va_join (wr := [(h0, .inr (0, [.int a0, .int a1, .int a2, .int a3, .int a4, .int a5, .int a6, .int a7, .int a8, .int a9, .int a10, .int a11]))]) (w1 := []) hP hD [] [0] rfl rfl (by decide) (by decide) hk1 hFc hP1 hD1
    have hK := (hK.sub (tys' := []) [] rfl).app hK1
    generalize H1 = H at hP hS ⊢
    have hP : va_P (dC, dI) vwCl [(h0, .inr (0, [.int a0, .int a1, .int a2, .int a3, .int a4, .int a5, .int a6, .int a7, .int a8, .int a9, .int a10, .int a11]))] H := hP
    have hD : va_D A [(h0, .inr (0, [.int a0, .int a1, .int a2, .int a3, .int a4, .int a5, .int a6, .int a7, .int a8, .int a9, .int a10, .int a11]))] := hD
    have hK : va_K (dC, dI) vwCl [] s := hK
    refine lv_if_eq (tgt := 135) hx hb dX0_statusByOutcome_127 (by decide) (fun c_19 => ?_) (fun c_19 => ?_)
    · refine lv_bipush (v := 90) hx hb dX0_statusByOutcome_135 (by decide) ?_
      have hP9 := hP.sub (ws' := [(h0, .inr (0, [.int a0, .int a1, .int a2, .int a3, .int a4, .int a5, .int a6, .int a7, .int a8, .int a9, .int a10, .int a11]))]) [0] rfl
      have hD9 := hD.sub (ws' := [(h0, .inr (0, [.int a0, .int a1, .int a2, .int a3, .int a4, .int a5, .int a6, .int a7, .int a8, .int a9, .int a10, .int a11]))]) [0] (by decide) rfl
      have hK9 := hK.sub (tys' := []) [] rfl
      have ef : fx_X0_statusByOutcome a0 p0 p1 = 90 := by unfold fx_X0_statusByOutcome; rw [if_neg c_1, if_neg c_2, if_neg c_4, if_neg c_7, if_neg c_9, if_neg c_11, if_neg c_12, if_neg c_14, if_pos c_16, if_pos c_17, if_pos c_19]
      exact W.iret (v := 90) hx hb hr (fun t ht hW => ⟨⟨90, [(h0, .inr (0, [.int a0, .int a1, .int a2, .int a3, .int a4, .int a5, .int a6, .int a7, .int a8, .int a9, .int a10, .int a11]))], rfl, ⟨ef.symm, rfl⟩, by rw [ht]; exact hP9, va_K.moved hW.alike hK9, hD9⟩, hS.F ht⟩) hS.2.2 dX0_statusByOutcome_137
    refine lv_bipush (v := 21) hx hb dX0_statusByOutcome_130 (by decide) ?_
    refine lv_goto (tgt := 137) hx hb dX0_statusByOutcome_132 (by decide) ?_
    have hP9 := hP.sub (ws' := [(h0, .inr (0, [.int a0, .int a1, .int a2, .int a3, .int a4, .int a5, .int a6, .int a7, .int a8, .int a9, .int a10, .int a11]))]) [0] rfl
    have hD9 := hD.sub (ws' := [(h0, .inr (0, [.int a0, .int a1, .int a2, .int a3, .int a4, .int a5, .int a6, .int a7, .int a8, .int a9, .int a10, .int a11]))]) [0] (by decide) rfl
    have hK9 := hK.sub (tys' := []) [] rfl
    have ef : fx_X0_statusByOutcome a0 p0 p1 = 21 := by unfold fx_X0_statusByOutcome; rw [if_neg c_1, if_neg c_2, if_neg c_4, if_neg c_7, if_neg c_9, if_neg c_11, if_neg c_12, if_neg c_14, if_pos c_16, if_pos c_17, if_neg c_19]
    exact W.iret (v := 21) hx hb hr (fun t ht hW => ⟨⟨21, [(h0, .inr (0, [.int a0, .int a1, .int a2, .int a3, .int a4, .int a5, .int a6, .int a7, .int a8, .int a9, .int a10, .int a11]))], rfl, ⟨ef.symm, rfl⟩, by rw [ht]; exact hP9, va_K.moved hW.alike hK9, hD9⟩, hS.F ht⟩) hS.2.2 dX0_statusByOutcome_137
  refine lv_tableOut (tgt := 138) hx hb dX0_statusByOutcome_1 (by have n_0 : (p1 : Int32).toInt ≠ 0 := xx_ne c_1 (by decide); have n_1 : (p1 : Int32).toInt ≠ 1 := xx_ne c_2 (by decide); have n_2 : (p1 : Int32).toInt ≠ 2 := xx_ne c_4 (by decide); have n_3 : (p1 : Int32).toInt ≠ 3 := xx_ne c_7 (by decide); have n_4 : (p1 : Int32).toInt ≠ 4 := xx_ne c_9 (by decide); have n_5 : (p1 : Int32).toInt ≠ 5 := xx_ne c_11 (by decide); have n_6 : (p1 : Int32).toInt ≠ 6 := xx_ne c_12 (by decide); have n_7 : (p1 : Int32).toInt ≠ 7 := xx_ne c_14 (by decide); have n_8 : (p1 : Int32).toInt ≠ 8 := xx_ne c_16 (by decide); omega) (by decide) ?_
  refine lv_bipush (v := 90) hx hb dX0_statusByOutcome_138 (by decide) ?_
  have hP9 := hP.sub (ws' := [(h0, .inr (0, [.int a0, .int a1, .int a2, .int a3, .int a4, .int a5, .int a6, .int a7, .int a8, .int a9, .int a10, .int a11]))]) [0] rfl
  have hD9 := hD.sub (ws' := [(h0, .inr (0, [.int a0, .int a1, .int a2, .int a3, .int a4, .int a5, .int a6, .int a7, .int a8, .int a9, .int a10, .int a11]))]) [0] (by decide) rfl
  have hK9 := hK.sub (tys' := []) [] rfl
  have ef : fx_X0_statusByOutcome a0 p0 p1 = 90 := by unfold fx_X0_statusByOutcome; rw [if_neg c_1, if_neg c_2, if_neg c_4, if_neg c_7, if_neg c_9, if_neg c_11, if_neg c_12, if_neg c_14, if_neg c_16]
  exact W.iret (v := 90) hx hb hr (fun t ht hW => ⟨⟨90, [(h0, .inr (0, [.int a0, .int a1, .int a2, .int a3, .int a4, .int a5, .int a6, .int a7, .int a8, .int a9, .int a10, .int a11]))], rfl, ⟨ef.symm, rfl⟩, by rw [ht]; exact hP9, va_K.moved hW.alike hK9, hD9⟩, hS.F ht⟩) hS.2.2 dX0_statusByOutcome_140
set_option maxHeartbeats 4000000 in
set_option maxRecDepth 100000 in
theorem ct_X0_move (l : Launch) (dC : Nat → ClassId) (dI : Nat → Nat → Nat) (h0 : Nat) (sz : Nat) (a0 a1 a2 a3 a4 a5 a6 a7 a8 a9 a10 a11 p0 p1 : Int32) : Met l yX0_move wsX0_move ({ frames := 2, cells := 0, slots := 0, locals := 41 }) (va_Pc [.ref h0, .int p0, .int p1] (fun U => U.heap.size = sz ∧ va_P (dC, dI) vwCl [(h0, .inr (0, [.int a0, .int a1, .int a2, .int a3, .int a4, .int a5, .int a6, .int a7, .int a8, .int a9, .int a10, .int a11]))] U.heap ∧ va_K (dC, dI) vwCl [] U ∧ va_D (fun _ => True) [(h0, .inr (0, [.int a0, .int a1, .int a2, .int a3, .int a4, .int a5, .int a6, .int a7, .int a8, .int a9, .int a10, .int a11]))])) (va_Qv (fun u : va_W => u = [(h0, .inr (0, [.int a0, .int a1, .int (gx_X0_move_2 a2 p0 p1), .int a3, .int (gx_X0_move_4 a4 p0 p1), .int a5, .int a6, .int a7, .int a8, .int a9, .int a10, .int a11]))]) (at_W dC dI (va_A [(h0, .inr (0, [.int a0, .int a1, .int a2, .int a3, .int a4, .int a5, .int a6, .int a7, .int a8, .int a9, .int a10, .int a11]))] sz)) (va_A [(h0, .inr (0, [.int a0, .int a1, .int a2, .int a3, .int a4, .int a5, .int a6, .int a7, .int a8, .int a9, .int a10, .int a11]))] sz)) 0 0 (va_A [(h0, .inr (0, [.int a0, .int a1, .int a2, .int a3, .int a4, .int a5, .int a6, .int a7, .int a8, .int a9, .int a10, .int a11]))] sz) := by
  refine Met.ofW (cc := cX0_move) (maxL := 3) (ret := none) (by decide) rfl ?_
  intro p e s m args below meth c s₁ B hml hv
  obtain ⟨rfl, hsz, hP, hK, hD0⟩ := hv
  have hx := B.exec
  have hb := B.bytes
  have hr := B.returns
  have hts := atoms_spec (ws := wsX0_move) B.pre
  have hown : s.vm.findClass RX0 = some m.cls := findClass_of_methodNamed B.named
  have hlocks := B.notSynchronized
  subst hsz
  have hD := hD0.self (sz := s.heap.size)
  generalize hAe : va_A [(h0, .inr (0, [.int a0, .int a1, .int a2, .int a3, .int a4, .int a5, .int a6, .int a7, .int a8, .int a9, .int a10, .int a11]))] s.heap.size = A at hD ⊢
  have hA : ∀ q : Nat, s.heap.size ≤ q → A q := fun q h => by rw [← hAe]; exact Or.inr h
  have hS : va_S A s.heap s.heap [] := va_S.rf
  have hP : va_P (dC, dI) vwCl [(h0, .inr (0, [.int a0, .int a1, .int a2, .int a3, .int a4, .int a5, .int a6, .int a7, .int a8, .int a9, .int a10, .int a11]))] s.heap := hP
  have hl := lv_entry ([.ref h0, .int p0, .int p1]) (n := 3) (Nat.le_of_ble_eq_true rfl)
  rw [lg_entry_eq]
  generalize (lg_sl ([.ref h0, .int p0, .int p1]) ++ List.replicate (3 - (lg_sl ([.ref h0, .int p0, .int p1])).length) Slot.unset).toArray = ls at hl ⊢
  have hl : lv_has ls 3 [(0, .ref h0), (1, .int p0), (2, .int p1)] := hl
  refine lv_iload_n hx hb dX0_move_0 rfl (lv_at hl 1 rfl) ?_
  have hPc := hP.sub (ws' := []) [] rfl
  have hDc := hD.sub (ws' := []) [] (by decide) rfl
  have hKc := hK.sub (tys' := []) [] rfl
  have hFc := va_free (wc := []) hD hS hA [] rfl
  refine va_calli (va_runS (As := [.int p0]) (rest := []) ⟨hx, hb, hml, hown, hts⟩ (ct_X0_isRead l dC dI s.heap.size p0) (va_cwS 1 hts gX0_move_X0_isRead rfl rfl rfl (by decide +kernel) ⟨Nat.le_of_ble_eq_true rfl, Nat.le_of_ble_eq_true rfl⟩) ⟨fun a U g mk q => by obtain ⟨q0, q1, qP, qK, qD⟩ := q; exact ⟨q0, q1, qP, va_K.moved (u := U) (U := U.calling g mk a) (Vm.Alike.refl U.vm) qK, qD⟩, fun U hU hW => ⟨rfl, by rw [hU], by rw [hU]; exact hPc, va_K.moved hW.alike hKc, hDc.weaken (fun _ _ _ _ => trivial)⟩⟩ rfl rfl hl.1 rfl (lv_room (Nat.le_of_ble_eq_true rfl)) dX0_move_1 ⟨(Nat.zero_le _), (Nat.zero_le _)⟩) hS (fun q _ h => hFc q h) hFc (fun r_1 u t H1 locs ht hvm hw hB hz1 hk1 hS => ?_)
  obtain ⟨er, hu⟩ := hw
  subst hu
  subst er
  obtain ⟨hP1, hK1, hD1⟩ := hB
  rw [ht] at hP1
  have hK1 := va_K.moved hvm.symm hK1
  obtain ⟨hP, hD⟩ := va_join (wr := [(h0, .inr (0, [.int a0, .int a1, .int a2, .int a3, .int a4, .int a5, .int a6, .int a7, .int a8, .int a9, .int a10, .int a11]))]) (w1 := []) hP hD [] [0] rfl rfl (by decide) (by decide) hk1 hFc hP1 hD1
  have hK := (hK.sub (tys' := []) [] rfl).app hK1
  generalize H1 = H at hP hS ⊢
  have hP : va_P (dC, dI) vwCl [(h0, .inr (0, [.int a0, .int a1, .int a2, .int a3, .int a4, .int a5, .int a6, .int a7, .int a8, .int a9, .int a10, .int a11]))] H := hP
  have hD : va_D A [(h0, .inr (0, [.int a0, .int a1, .int a2, .int a3, .int a4, .int a5, .int a6, .int a7, .int a8, .int a9, .int a10, .int a11]))] := hD
  have hK : va_K (dC, dI) vwCl [] s := hK
  refine lv_if_ne (tgt := 12) hx hb dX0_move_4 (by decide) (fun c_2 => ?_) (fun c_2 => ?_)
  · refine lv_aload_n hx hb dX0_move_12 rfl (lv_at hl 0 rfl) ?_
    refine lv_iload_n hx hb dX0_move_13 rfl (lv_at hl 2 rfl) ?_
    refine lv_aload_n hx hb dX0_move_14 rfl (lv_at hl 0 rfl) ?_
    refine va_get (D := (dC, dI)) (ci := 0) (v := .int a4) (C := RX0) (T := TX0) (N := 12) hx hb hts (fun _ h => List.mem_cons_of_mem _ (List.mem_append_right _ h)) hown hK hP 0 rfl rfl 4 (by decide) (hts (.fieldLink RX0 20 "FileStatus" "place" "I") (by decide +kernel)) (fun _ h9 => h9) rfl dX0_move_15 ?_
    have hPc := hP.sub (ws' := []) [] rfl
    have hDc := hD.sub (ws' := []) [] (by decide) rfl
    have hKc := hK.sub (tys' := []) [] rfl
    have hFc := va_free (wc := []) hD hS hA [] rfl
    refine va_calli (va_runS (As := [.int p1, .int a4]) (rest := [.ref h0]) ⟨hx, hb, hml, hown, hts⟩ (ct_X0_placeAfter l dC dI H.size p1 a4) (va_cwS 2 hts gX0_move_X0_placeAfter rfl rfl rfl (by decide +kernel) ⟨Nat.le_of_ble_eq_true rfl, Nat.le_of_ble_eq_true rfl⟩) ⟨fun a U g mk q => by obtain ⟨q0, q1, qP, qK, qD⟩ := q; exact ⟨q0, q1, qP, va_K.moved (u := U) (U := U.calling g mk a) (Vm.Alike.refl U.vm) qK, qD⟩, fun U hU hW => ⟨rfl, by rw [hU], by rw [hU]; exact hPc, va_K.moved hW.alike hKc, hDc.weaken (fun _ _ _ _ => trivial)⟩⟩ rfl rfl hl.1 rfl (lv_room (Nat.le_of_ble_eq_true rfl)) dX0_move_18 ⟨(Nat.zero_le _), (Nat.zero_le _)⟩) hS (fun q _ h => hFc q h) hFc (fun r_3 u t H1 locs ht hvm hw hB hz1 hk1 hS => ?_)
    obtain ⟨er, hu⟩ := hw
    subst hu
    subst er
    obtain ⟨hP1, hK1, hD1⟩ := hB
    rw [ht] at hP1
    have hK1 := va_K.moved hvm.symm hK1
    obtain ⟨hP, hD⟩ := va_join (wr := [(h0, .inr (0, [.int a0, .int a1, .int a2, .int a3, .int a4, .int a5, .int a6, .int a7, .int a8, .int a9, .int a10, .int a11]))]) (w1 := []) hP hD [] [0] rfl rfl (by decide) (by decide) hk1 hFc hP1 hD1
    have hK := (hK.sub (tys' := []) [] rfl).app hK1
    generalize H1 = H at hP hS ⊢
    have hP : va_P (dC, dI) vwCl [(h0, .inr (0, [.int a0, .int a1, .int a2, .int a3, .int a4, .int a5, .int a6, .int a7, .int a8, .int a9, .int a10, .int a11]))] H := hP
    have hD : va_D A [(h0, .inr (0, [.int a0, .int a1, .int a2, .int a3, .int a4, .int a5, .int a6, .int a7, .int a8, .int a9, .int a10, .int a11]))] := hD
    have hK : va_K (dC, dI) vwCl [] s := hK
    refine va_put (D := (dC, dI)) (ci := 0) (v := .int (fx_X0_placeAfter p1 a4)) (ty := .int) (C := RX0) (T := TX0) (N := 12) hx hb hts (fun _ h => List.mem_cons_of_mem _ (List.mem_append_right _ h)) tyX0 tyX0_ok nmX0 hown hK hP hD hS 0 rfl rfl 4 (by decide) (hts (.fieldLink RX0 20 "FileStatus" "place" "I") (by decide +kernel)) (fun _ h9 => h9) rfl (by decide +kernel) rfl rfl (Nat.le_of_ble_eq_true rfl) dX0_move_21 (fun H locs hP hD hS => ?_)
    have hP : va_P (dC, dI) vwCl [(h0, .inr (0, [.int a0, .int a1, .int a2, .int a3, .int (fx_X0_placeAfter p1 a4), .int a5, .int a6, .int a7, .int a8, .int a9, .int a10, .int a11]))] H := hP
    have hD : va_D A [(h0, .inr (0, [.int a0, .int a1, .int a2, .int a3, .int (fx_X0_placeAfter p1 a4), .int a5, .int a6, .int a7, .int a8, .int a9, .int a10, .int a11]))] := hD
    refine lv_iload_n hx hb dX0_move_24 rfl (lv_at hl 1 rfl) ?_
    refine lv_bipush (v := 6) hx hb dX0_move_25 (by decide) ?_
    refine lv_icmp_ne (tgt := 39) hx hb dX0_move_27 (by decide) (fun c_4 => ?_) (fun c_4 => ?_)
    · have hP9 := hP.sub (ws' := [(h0, .inr (0, [.int a0, .int a1, .int a2, .int a3, .int (fx_X0_placeAfter p1 a4), .int a5, .int a6, .int a7, .int a8, .int a9, .int a10, .int a11]))]) [0] rfl
      have hD9 := hD.sub (ws' := [(h0, .inr (0, [.int a0, .int a1, .int a2, .int a3, .int (fx_X0_placeAfter p1 a4), .int a5, .int a6, .int a7, .int a8, .int a9, .int a10, .int a11]))]) [0] (by decide) rfl
      have hK9 := hK.sub (tys' := []) [] rfl
      have eg_2 : gx_X0_move_2 a2 p0 p1 = a2 := by unfold gx_X0_move_2; rw [if_neg c_2, if_neg c_4]
      have eg_4 : gx_X0_move_4 a4 p0 p1 = fx_X0_placeAfter p1 a4 := by unfold gx_X0_move_4; rw [if_neg c_2]
      exact W.vret hx hb hr (fun t ht hW => ⟨⟨[(h0, .inr (0, [.int a0, .int a1, .int a2, .int a3, .int (fx_X0_placeAfter p1 a4), .int a5, .int a6, .int a7, .int a8, .int a9, .int a10, .int a11]))], rfl, by rw [eg_2, eg_4], by rw [ht]; exact hP9, va_K.moved hW.alike hK9, hD9⟩, hS.F ht⟩) hS.2.2 dX0_move_39
    refine lv_iload_n hx hb dX0_move_30 rfl (lv_at hl 2 rfl) ?_
    refine lv_if_ne (tgt := 39) hx hb dX0_move_31 (by decide) (fun c_5 => ?_) (fun c_5 => ?_)
    · have hP9 := hP.sub (ws' := [(h0, .inr (0, [.int a0, .int a1, .int a2, .int a3, .int (fx_X0_placeAfter p1 a4), .int a5, .int a6, .int a7, .int a8, .int a9, .int a10, .int a11]))]) [0] rfl
      have hD9 := hD.sub (ws' := [(h0, .inr (0, [.int a0, .int a1, .int a2, .int a3, .int (fx_X0_placeAfter p1 a4), .int a5, .int a6, .int a7, .int a8, .int a9, .int a10, .int a11]))]) [0] (by decide) rfl
      have hK9 := hK.sub (tys' := []) [] rfl
      have eg_2 : gx_X0_move_2 a2 p0 p1 = a2 := by unfold gx_X0_move_2; rw [if_neg c_2, if_pos c_4, if_neg c_5]
      have eg_4 : gx_X0_move_4 a4 p0 p1 = fx_X0_placeAfter p1 a4 := by unfold gx_X0_move_4; rw [if_neg c_2]
      exact W.vret hx hb hr (fun t ht hW => ⟨⟨[(h0, .inr (0, [.int a0, .int a1, .int a2, .int a3, .int (fx_X0_placeAfter p1 a4), .int a5, .int a6, .int a7, .int a8, .int a9, .int a10, .int a11]))], rfl, by rw [eg_2, eg_4], by rw [ht]; exact hP9, va_K.moved hW.alike hK9, hD9⟩, hS.F ht⟩) hS.2.2 dX0_move_39
    refine lv_aload_n hx hb dX0_move_34 rfl (lv_at hl 0 rfl) ?_
    refine lv_iconst (v := 0) hx hb dX0_move_35 (by decide) ?_
    refine va_put (D := (dC, dI)) (ci := 0) (v := .int 0) (ty := .boolean) (C := RX0) (T := TX0) (N := 12) hx hb hts (fun _ h => List.mem_cons_of_mem _ (List.mem_append_right _ h)) tyX0 tyX0_ok nmX0 hown hK hP hD hS 0 rfl rfl 2 (by decide) (hts (.fieldLink RX0 13 "FileStatus" "isOpen" "Z") (by decide +kernel)) (fun _ h9 => h9) rfl (by decide +kernel) rfl rfl (Nat.le_of_ble_eq_true rfl) dX0_move_36 (fun H locs hP hD hS => ?_)
    have hP : va_P (dC, dI) vwCl [(h0, .inr (0, [.int a0, .int a1, .int 0, .int a3, .int (fx_X0_placeAfter p1 a4), .int a5, .int a6, .int a7, .int a8, .int a9, .int a10, .int a11]))] H := hP
    have hD : va_D A [(h0, .inr (0, [.int a0, .int a1, .int 0, .int a3, .int (fx_X0_placeAfter p1 a4), .int a5, .int a6, .int a7, .int a8, .int a9, .int a10, .int a11]))] := hD
    have hP9 := hP.sub (ws' := [(h0, .inr (0, [.int a0, .int a1, .int 0, .int a3, .int (fx_X0_placeAfter p1 a4), .int a5, .int a6, .int a7, .int a8, .int a9, .int a10, .int a11]))]) [0] rfl
    have hD9 := hD.sub (ws' := [(h0, .inr (0, [.int a0, .int a1, .int 0, .int a3, .int (fx_X0_placeAfter p1 a4), .int a5, .int a6, .int a7, .int a8, .int a9, .int a10, .int a11]))]) [0] (by decide) rfl
    have hK9 := hK.sub (tys' := []) [] rfl
    have eg_2 : gx_X0_move_2 a2 p0 p1 = 0 := by unfold gx_X0_move_2; rw [if_neg c_2, if_pos c_4, if_pos c_5]
    have eg_4 : gx_X0_move_4 a4 p0 p1 = fx_X0_placeAfter p1 a4 := by unfold gx_X0_move_4; rw [if_neg c_2]
    exact W.vret hx hb hr (fun t ht hW => ⟨⟨[(h0, .inr (0, [.int a0, .int a1, .int 0, .int a3, .int (fx_X0_placeAfter p1 a4), .int a5, .int a6, .int a7, .int a8, .int a9, .int a10, .int a11]))], rfl, by rw [eg_2, eg_4], by rw [ht]; exact hP9, va_K.moved hW.alike hK9, hD9⟩, hS.F ht⟩) hS.2.2 dX0_move_39
  refine lv_iload_n hx hb dX0_move_7 rfl (lv_at hl 1 rfl) ?_
  refine lv_iconst (v := 5) hx hb dX0_move_8 (by decide) ?_
  refine lv_icmp_ne (tgt := 24) hx hb dX0_move_9 (by decide) (fun c_6 => ?_) (fun c_6 => ?_)
  · refine lv_iload_n hx hb dX0_move_24 rfl (lv_at hl 1 rfl) ?_
    refine lv_bipush (v := 6) hx hb dX0_move_25 (by decide) ?_
    refine lv_icmp_ne (tgt := 39) hx hb dX0_move_27 (by decide) (fun c_7 => ?_) (fun c_7 => ?_)
    · have hP9 := hP.sub (ws' := [(h0, .inr (0, [.int a0, .int a1, .int a2, .int a3, .int a4, .int a5, .int a6, .int a7, .int a8, .int a9, .int a10, .int a11]))]) [0] rfl
      have hD9 := hD.sub (ws' := [(h0, .inr (0, [.int a0, .int a1, .int a2, .int a3, .int a4, .int a5, .int a6, .int a7, .int a8, .int a9, .int a10, .int a11]))]) [0] (by decide) rfl
      have hK9 := hK.sub (tys' := []) [] rfl
      have eg_2 : gx_X0_move_2 a2 p0 p1 = a2 := by unfold gx_X0_move_2; rw [if_pos c_2, if_neg c_6, if_neg c_7]
      have eg_4 : gx_X0_move_4 a4 p0 p1 = a4 := by unfold gx_X0_move_4; rw [if_pos c_2, if_neg c_6]
      exact W.vret hx hb hr (fun t ht hW => ⟨⟨[(h0, .inr (0, [.int a0, .int a1, .int a2, .int a3, .int a4, .int a5, .int a6, .int a7, .int a8, .int a9, .int a10, .int a11]))], rfl, by rw [eg_2, eg_4], by rw [ht]; exact hP9, va_K.moved hW.alike hK9, hD9⟩, hS.F ht⟩) hS.2.2 dX0_move_39
    refine lv_iload_n hx hb dX0_move_30 rfl (lv_at hl 2 rfl) ?_
    refine lv_if_ne (tgt := 39) hx hb dX0_move_31 (by decide) (fun c_8 => ?_) (fun c_8 => ?_)
    · have hP9 := hP.sub (ws' := [(h0, .inr (0, [.int a0, .int a1, .int a2, .int a3, .int a4, .int a5, .int a6, .int a7, .int a8, .int a9, .int a10, .int a11]))]) [0] rfl
      have hD9 := hD.sub (ws' := [(h0, .inr (0, [.int a0, .int a1, .int a2, .int a3, .int a4, .int a5, .int a6, .int a7, .int a8, .int a9, .int a10, .int a11]))]) [0] (by decide) rfl
      have hK9 := hK.sub (tys' := []) [] rfl
      have eg_2 : gx_X0_move_2 a2 p0 p1 = a2 := by unfold gx_X0_move_2; rw [if_pos c_2, if_neg c_6, if_pos c_7, if_neg c_8]
      have eg_4 : gx_X0_move_4 a4 p0 p1 = a4 := by unfold gx_X0_move_4; rw [if_pos c_2, if_neg c_6]
      exact W.vret hx hb hr (fun t ht hW => ⟨⟨[(h0, .inr (0, [.int a0, .int a1, .int a2, .int a3, .int a4, .int a5, .int a6, .int a7, .int a8, .int a9, .int a10, .int a11]))], rfl, by rw [eg_2, eg_4], by rw [ht]; exact hP9, va_K.moved hW.alike hK9, hD9⟩, hS.F ht⟩) hS.2.2 dX0_move_39
    refine lv_aload_n hx hb dX0_move_34 rfl (lv_at hl 0 rfl) ?_
    refine lv_iconst (v := 0) hx hb dX0_move_35 (by decide) ?_
    refine va_put (D := (dC, dI)) (ci := 0) (v := .int 0) (ty := .boolean) (C := RX0) (T := TX0) (N := 12) hx hb hts (fun _ h => List.mem_cons_of_mem _ (List.mem_append_right _ h)) tyX0 tyX0_ok nmX0 hown hK hP hD hS 0 rfl rfl 2 (by decide) (hts (.fieldLink RX0 13 "FileStatus" "isOpen" "Z") (by decide +kernel)) (fun _ h9 => h9) rfl (by decide +kernel) rfl rfl (Nat.le_of_ble_eq_true rfl) dX0_move_36 (fun H locs hP hD hS => ?_)
    have hP : va_P (dC, dI) vwCl [(h0, .inr (0, [.int a0, .int a1, .int 0, .int a3, .int a4, .int a5, .int a6, .int a7, .int a8, .int a9, .int a10, .int a11]))] H := hP
    have hD : va_D A [(h0, .inr (0, [.int a0, .int a1, .int 0, .int a3, .int a4, .int a5, .int a6, .int a7, .int a8, .int a9, .int a10, .int a11]))] := hD
    have hP9 := hP.sub (ws' := [(h0, .inr (0, [.int a0, .int a1, .int 0, .int a3, .int a4, .int a5, .int a6, .int a7, .int a8, .int a9, .int a10, .int a11]))]) [0] rfl
    have hD9 := hD.sub (ws' := [(h0, .inr (0, [.int a0, .int a1, .int 0, .int a3, .int a4, .int a5, .int a6, .int a7, .int a8, .int a9, .int a10, .int a11]))]) [0] (by decide) rfl
    have hK9 := hK.sub (tys' := []) [] rfl
    have eg_2 : gx_X0_move_2 a2 p0 p1 = 0 := by unfold gx_X0_move_2; rw [if_pos c_2, if_neg c_6, if_pos c_7, if_pos c_8]
    have eg_4 : gx_X0_move_4 a4 p0 p1 = a4 := by unfold gx_X0_move_4; rw [if_pos c_2, if_neg c_6]
    exact W.vret hx hb hr (fun t ht hW => ⟨⟨[(h0, .inr (0, [.int a0, .int a1, .int 0, .int a3, .int a4, .int a5, .int a6, .int a7, .int a8, .int a9, .int a10, .int a11]))], rfl, by rw [eg_2, eg_4], by rw [ht]; exact hP9, va_K.moved hW.alike hK9, hD9⟩, hS.F ht⟩) hS.2.2 dX0_move_39
  refine lv_aload_n hx hb dX0_move_12 rfl (lv_at hl 0 rfl) ?_
  refine lv_iload_n hx hb dX0_move_13 rfl (lv_at hl 2 rfl) ?_
  refine lv_aload_n hx hb dX0_move_14 rfl (lv_at hl 0 rfl) ?_
  refine va_get (D := (dC, dI)) (ci := 0) (v := .int a4) (C := RX0) (T := TX0) (N := 12) hx hb hts (fun _ h => List.mem_cons_of_mem _ (List.mem_append_right _ h)) hown hK hP 0 rfl rfl 4 (by decide) (hts (.fieldLink RX0 20 "FileStatus" "place" "I") (by decide +kernel)) (fun _ h9 => h9) rfl dX0_move_15 ?_
  have hPc := hP.sub (ws' := []) [] rfl
  have hDc := hD.sub (ws' := []) [] (by decide) rfl
  have hKc := hK.sub (tys' := []) [] rfl
  have hFc := va_free (wc := []) hD hS hA [] rfl
  refine va_calli (va_runS (As := [.int p1, .int a4]) (rest := [.ref h0]) ⟨hx, hb, hml, hown, hts⟩ (ct_X0_placeAfter l dC dI H.size p1 a4) (va_cwS 2 hts gX0_move_X0_placeAfter rfl rfl rfl (by decide +kernel) ⟨Nat.le_of_ble_eq_true rfl, Nat.le_of_ble_eq_true rfl⟩) ⟨fun a U g mk q => by obtain ⟨q0, q1, qP, qK, qD⟩ := q; exact ⟨q0, q1, qP, va_K.moved (u := U) (U := U.calling g mk a) (Vm.Alike.refl U.vm) qK, qD⟩, fun U hU hW => ⟨rfl, by rw [hU], by rw [hU]; exact hPc, va_K.moved hW.alike hKc, hDc.weaken (fun _ _ _ _ => trivial)⟩⟩ rfl rfl hl.1 rfl (lv_room (Nat.le_of_ble_eq_true rfl)) dX0_move_18 ⟨(Nat.zero_le _), (Nat.zero_le _)⟩) hS (fun q _ h => hFc q h) hFc (fun r_9 u t H1 locs ht hvm hw hB hz1 hk1 hS => ?_)
  obtain ⟨er, hu⟩ := hw
  subst hu
  subst er
  obtain ⟨hP1, hK1, hD1⟩ := hB
  rw [ht] at hP1
  have hK1 := va_K.moved hvm.symm hK1
  obtain ⟨hP, hD⟩ := va_join (wr := [(h0, .inr (0, [.int a0, .int a1, .int a2, .int a3, .int a4, .int a5, .int a6, .int a7, .int a8, .int a9, .int a10, .int a11]))]) (w1 := []) hP hD [] [0] rfl rfl (by decide) (by decide) hk1 hFc hP1 hD1
  have hK := (hK.sub (tys' := []) [] rfl).app hK1
  generalize H1 = H at hP hS ⊢
  have hP : va_P (dC, dI) vwCl [(h0, .inr (0, [.int a0, .int a1, .int a2, .int a3, .int a4, .int a5, .int a6, .int a7, .int a8, .int a9, .int a10, .int a11]))] H := hP
  have hD : va_D A [(h0, .inr (0, [.int a0, .int a1, .int a2, .int a3, .int a4, .int a5, .int a6, .int a7, .int a8, .int a9, .int a10, .int a11]))] := hD
  have hK : va_K (dC, dI) vwCl [] s := hK
  refine va_put (D := (dC, dI)) (ci := 0) (v := .int (fx_X0_placeAfter p1 a4)) (ty := .int) (C := RX0) (T := TX0) (N := 12) hx hb hts (fun _ h => List.mem_cons_of_mem _ (List.mem_append_right _ h)) tyX0 tyX0_ok nmX0 hown hK hP hD hS 0 rfl rfl 4 (by decide) (hts (.fieldLink RX0 20 "FileStatus" "place" "I") (by decide +kernel)) (fun _ h9 => h9) rfl (by decide +kernel) rfl rfl (Nat.le_of_ble_eq_true rfl) dX0_move_21 (fun H locs hP hD hS => ?_)
  have hP : va_P (dC, dI) vwCl [(h0, .inr (0, [.int a0, .int a1, .int a2, .int a3, .int (fx_X0_placeAfter p1 a4), .int a5, .int a6, .int a7, .int a8, .int a9, .int a10, .int a11]))] H := hP
  have hD : va_D A [(h0, .inr (0, [.int a0, .int a1, .int a2, .int a3, .int (fx_X0_placeAfter p1 a4), .int a5, .int a6, .int a7, .int a8, .int a9, .int a10, .int a11]))] := hD
  refine lv_iload_n hx hb dX0_move_24 rfl (lv_at hl 1 rfl) ?_
  refine lv_bipush (v := 6) hx hb dX0_move_25 (by decide) ?_
  refine lv_icmp_ne (tgt := 39) hx hb dX0_move_27 (by decide) (fun c9 => ?_) (fun c9 => absurd (c_6.symm.trans c9) (by decide))
  have hP9 := hP.sub (ws' := [(h0, .inr (0, [.int a0, .int a1, .int a2, .int a3, .int (fx_X0_placeAfter p1 a4), .int a5, .int a6, .int a7, .int a8, .int a9, .int a10, .int a11]))]) [0] rfl
  have hD9 := hD.sub (ws' := [(h0, .inr (0, [.int a0, .int a1, .int a2, .int a3, .int (fx_X0_placeAfter p1 a4), .int a5, .int a6, .int a7, .int a8, .int a9, .int a10, .int a11]))]) [0] (by decide) rfl
  have hK9 := hK.sub (tys' := []) [] rfl
  have eg_2 : gx_X0_move_2 a2 p0 p1 = a2 := by unfold gx_X0_move_2; rw [if_pos c_2, if_pos c_6]
  have eg_4 : gx_X0_move_4 a4 p0 p1 = fx_X0_placeAfter p1 a4 := by unfold gx_X0_move_4; rw [if_pos c_2, if_pos c_6]
  exact W.vret hx hb hr (fun t ht hW => ⟨⟨[(h0, .inr (0, [.int a0, .int a1, .int a2, .int a3, .int (fx_X0_placeAfter p1 a4), .int a5, .int a6, .int a7, .int a8, .int a9, .int a10, .int a11]))], rfl, by rw [eg_2, eg_4], by rw [ht]; exact hP9, va_K.moved hW.alike hK9, hD9⟩, hS.F ht⟩) hS.2.2 dX0_move_39
set_option maxHeartbeats 4000000 in
set_option maxRecDepth 100000 in
theorem ct_X0_statusOfAct (l : Launch) (dC : Nat → ClassId) (dI : Nat → Nat → Nat) (h0 : Nat) (sz : Nat) (a0 a1 a2 a3 a4 a5 a6 a7 a8 a9 a10 a11 p0 p1 : Int32) : Met l yX0_statusOfAct wsX0_statusOfAct ({ frames := 3, cells := 0, slots := 0, locals := 63 }) (va_Pc [.ref h0, .int p0, .int p1] (fun U => U.heap.size = sz ∧ va_P (dC, dI) vwCl [(h0, .inr (0, [.int a0, .int a1, .int a2, .int a3, .int a4, .int a5, .int a6, .int a7, .int a8, .int a9, .int a10, .int a11]))] U.heap ∧ va_K (dC, dI) vwCl [] U ∧ va_D (fun _ => True) [(h0, .inr (0, [.int a0, .int a1, .int a2, .int a3, .int a4, .int a5, .int a6, .int a7, .int a8, .int a9, .int a10, .int a11]))])) (va_Qi (fun (r : Int32) (u : va_W) => r = fx_X0_statusOfAct a0 a1 a2 a4 a5 a6 p0 p1 ∧ u = [(h0, .inr (0, [.int a0, .int a1, .int a2, .int a3, .int a4, .int a5, .int a6, .int a7, .int a8, .int a9, .int a10, .int a11]))]) (at_W dC dI (va_A [(h0, .inr (0, [.int a0, .int a1, .int a2, .int a3, .int a4, .int a5, .int a6, .int a7, .int a8, .int a9, .int a10, .int a11]))] sz)) (va_A [(h0, .inr (0, [.int a0, .int a1, .int a2, .int a3, .int a4, .int a5, .int a6, .int a7, .int a8, .int a9, .int a10, .int a11]))] sz)) 0 0 (va_A [(h0, .inr (0, [.int a0, .int a1, .int a2, .int a3, .int a4, .int a5, .int a6, .int a7, .int a8, .int a9, .int a10, .int a11]))] sz) := by
  refine Met.ofW (cc := cX0_statusOfAct) (maxL := 4) (ret := (some .int)) (by decide) rfl ?_
  intro p e s m args below meth c s₁ B hml hv
  obtain ⟨rfl, hsz, hP, hK, hD0⟩ := hv
  have hx := B.exec
  have hb := B.bytes
  have hr := B.returns
  have hts := atoms_spec (ws := wsX0_statusOfAct) B.pre
  have hown : s.vm.findClass RX0 = some m.cls := findClass_of_methodNamed B.named
  have hlocks := B.notSynchronized
  subst hsz
  have hD := hD0.self (sz := s.heap.size)
  generalize hAe : va_A [(h0, .inr (0, [.int a0, .int a1, .int a2, .int a3, .int a4, .int a5, .int a6, .int a7, .int a8, .int a9, .int a10, .int a11]))] s.heap.size = A at hD ⊢
  have hA : ∀ q : Nat, s.heap.size ≤ q → A q := fun q h => by rw [← hAe]; exact Or.inr h
  have hS : va_S A s.heap s.heap [] := va_S.rf
  have hP : va_P (dC, dI) vwCl [(h0, .inr (0, [.int a0, .int a1, .int a2, .int a3, .int a4, .int a5, .int a6, .int a7, .int a8, .int a9, .int a10, .int a11]))] s.heap := hP
  have hl := lv_entry ([.ref h0, .int p0, .int p1]) (n := 4) (Nat.le_of_ble_eq_true rfl)
  rw [lg_entry_eq]
  generalize (lg_sl ([.ref h0, .int p0, .int p1]) ++ List.replicate (4 - (lg_sl ([.ref h0, .int p0, .int p1])).length) Slot.unset).toArray = ls at hl ⊢
  have hl : lv_has ls 4 [(0, .ref h0), (1, .int p0), (2, .int p1)] := hl
  refine lv_aload_n hx hb dX0_statusOfAct_0 rfl (lv_at hl 0 rfl) ?_
  refine lv_iload_n hx hb dX0_statusOfAct_1 rfl (lv_at hl 1 rfl) ?_
  have hPc := hP.sub (ws' := [(h0, .inr (0, [.int a0, .int a1, .int a2, .int a3, .int a4, .int a5, .int a6, .int a7, .int a8, .int a9, .int a10, .int a11]))]) [0] rfl
  have hDc := hD.sub (ws' := [(h0, .inr (0, [.int a0, .int a1, .int a2, .int a3, .int a4, .int a5, .int a6, .int a7, .int a8, .int a9, .int a10, .int a11]))]) [0] (by decide) rfl
  have hKc := hK.sub (tys' := []) [] rfl
  have hFc := va_free (wc := [(h0, .inr (0, [.int a0, .int a1, .int a2, .int a3, .int a4, .int a5, .int a6, .int a7, .int a8, .int a9, .int a10, .int a11]))]) hD hS hA [0] rfl
  refine va_calli (va_runV (As := [.int p0]) (rest := []) ⟨hx, hb, hml, hown, hts⟩ (ct_X0_statusAheadOfOutcome l dC dI h0 s.heap.size a0 a1 a2 a3 a4 a5 a6 a7 a8 a9 a10 a11 p0) (cwV 1 hts gX0_statusOfAct_X0_statusAheadOfOutcome rfl rfl rfl (by decide +kernel) ⟨Nat.le_of_ble_eq_true rfl, Nat.le_of_ble_eq_true rfl⟩) ⟨fun a U g mk q => by obtain ⟨q0, q1, qP, qK, qD⟩ := q; exact ⟨q0, q1, qP, va_K.moved (u := U) (U := U.calling g mk a) (Vm.Alike.refl U.vm) qK, qD⟩, va_recv hKc hPc (ci := 0) (q0 := 0) rfl rfl, fun U hU hW => ⟨rfl, by rw [hU], by rw [hU]; exact hPc, va_K.moved hW.alike hKc, hDc.weaken (fun _ _ _ _ => trivial)⟩⟩ rfl rfl hl.1 rfl (lv_room (Nat.le_of_ble_eq_true rfl)) dX0_statusOfAct_2 ⟨(Nat.zero_le _), (Nat.zero_le _)⟩) hS (fun q _ h => hFc q h) hFc (fun r_1 u t H1 locs ht hvm hw hB hz1 hk1 hS => ?_)
  obtain ⟨er, hu⟩ := hw
  subst hu
  subst er
  obtain ⟨hP1, hK1, hD1⟩ := hB
  rw [ht] at hP1
  have hK1 := va_K.moved hvm.symm hK1
  obtain ⟨hP, hD⟩ := va_join (wr := []) (w1 := [(h0, .inr (0, [.int a0, .int a1, .int a2, .int a3, .int a4, .int a5, .int a6, .int a7, .int a8, .int a9, .int a10, .int a11]))]) hP hD [0] [] rfl rfl (by decide) (by decide) hk1 hFc hP1 hD1
  have hK := (hK.sub (tys' := []) [] rfl).app hK1
  generalize H1 = H at hP hS ⊢
  have hP : va_P (dC, dI) vwCl [(h0, .inr (0, [.int a0, .int a1, .int a2, .int a3, .int a4, .int a5, .int a6, .int a7, .int a8, .int a9, .int a10, .int a11]))] H := hP
  have hD : va_D A [(h0, .inr (0, [.int a0, .int a1, .int a2, .int a3, .int a4, .int a5, .int a6, .int a7, .int a8, .int a9, .int a10, .int a11]))] := hD
  have hK : va_K (dC, dI) vwCl [] s := hK
  refine lv_istore_n (lv' := [(3, .int (fx_X0_statusAheadOfOutcome a0 a1 a2 a4 a6 p0)), (0, .ref h0), (1, .int p0), (2, .int p1)]) hx hb dX0_statusOfAct_5 rfl hl (by decide) rfl (fun ls hl => ?_)
  refine lv_iload_n hx hb dX0_statusOfAct_6 rfl (lv_at hl 0 rfl) ?_
  refine lv_iconst (v := (-1)) hx hb dX0_statusOfAct_7 (by decide) ?_
  refine lv_icmp_eq (tgt := 13) hx hb dX0_statusOfAct_8 (by decide) (fun c_2 => ?_) (fun c_2 => ?_)
  · refine lv_iload_n hx hb dX0_statusOfAct_13 rfl (lv_at hl 2 rfl) ?_
    refine lv_if_ne (tgt := 27) hx hb dX0_statusOfAct_14 (by decide) (fun c_3 => ?_) (fun c_3 => ?_)
    · refine lv_aload_n hx hb dX0_statusOfAct_27 rfl (lv_at hl 1 rfl) ?_
      refine lv_iload_n hx hb dX0_statusOfAct_28 rfl (lv_at hl 2 rfl) ?_
      refine lv_iload_n hx hb dX0_statusOfAct_29 rfl (lv_at hl 3 rfl) ?_
      have hPc := hP.sub (ws' := [(h0, .inr (0, [.int a0, .int a1, .int a2, .int a3, .int a4, .int a5, .int a6, .int a7, .int a8, .int a9, .int a10, .int a11]))]) [0] rfl
      have hDc := hD.sub (ws' := [(h0, .inr (0, [.int a0, .int a1, .int a2, .int a3, .int a4, .int a5, .int a6, .int a7, .int a8, .int a9, .int a10, .int a11]))]) [0] (by decide) rfl
      have hKc := hK.sub (tys' := []) [] rfl
      have hFc := va_free (wc := [(h0, .inr (0, [.int a0, .int a1, .int a2, .int a3, .int a4, .int a5, .int a6, .int a7, .int a8, .int a9, .int a10, .int a11]))]) hD hS hA [0] rfl
      refine va_calli (va_runV (As := [.int p0, .int p1]) (rest := []) ⟨hx, hb, hml, hown, hts⟩ (ct_X0_statusByOutcome l dC dI h0 H.size a0 a1 a2 a3 a4 a5 a6 a7 a8 a9 a10 a11 p0 p1) (cwV 2 hts gX0_statusOfAct_X0_statusByOutcome rfl rfl rfl (by decide +kernel) ⟨Nat.le_of_ble_eq_true rfl, Nat.le_of_ble_eq_true rfl⟩) ⟨fun a U g mk q => by obtain ⟨q0, q1, qP, qK, qD⟩ := q; exact ⟨q0, q1, qP, va_K.moved (u := U) (U := U.calling g mk a) (Vm.Alike.refl U.vm) qK, qD⟩, va_recv hKc hPc (ci := 0) (q0 := 0) rfl rfl, fun U hU hW => ⟨rfl, by rw [hU], by rw [hU]; exact hPc, va_K.moved hW.alike hKc, hDc.weaken (fun _ _ _ _ => trivial)⟩⟩ rfl rfl hl.1 rfl (lv_room (Nat.le_of_ble_eq_true rfl)) dX0_statusOfAct_30 ⟨(Nat.zero_le _), (Nat.zero_le _)⟩) hS (fun q _ h => hFc q h) hFc (fun r_4 u t H1 locs ht hvm hw hB hz1 hk1 hS => ?_)
      obtain ⟨er, hu⟩ := hw
      subst hu
      subst er
      obtain ⟨hP1, hK1, hD1⟩ := hB
      rw [ht] at hP1
      have hK1 := va_K.moved hvm.symm hK1
      obtain ⟨hP, hD⟩ := va_join (wr := []) (w1 := [(h0, .inr (0, [.int a0, .int a1, .int a2, .int a3, .int a4, .int a5, .int a6, .int a7, .int a8, .int a9, .int a10, .int a11]))]) hP hD [0] [] rfl rfl (by decide) (by decide) hk1 hFc hP1 hD1
      have hK := (hK.sub (tys' := []) [] rfl).app hK1
      generalize H1 = H at hP hS ⊢
      have hP : va_P (dC, dI) vwCl [(h0, .inr (0, [.int a0, .int a1, .int a2, .int a3, .int a4, .int a5, .int a6, .int a7, .int a8, .int a9, .int a10, .int a11]))] H := hP
      have hD : va_D A [(h0, .inr (0, [.int a0, .int a1, .int a2, .int a3, .int a4, .int a5, .int a6, .int a7, .int a8, .int a9, .int a10, .int a11]))] := hD
      have hK : va_K (dC, dI) vwCl [] s := hK
      have hP9 := hP.sub (ws' := [(h0, .inr (0, [.int a0, .int a1, .int a2, .int a3, .int a4, .int a5, .int a6, .int a7, .int a8, .int a9, .int a10, .int a11]))]) [0] rfl
      have hD9 := hD.sub (ws' := [(h0, .inr (0, [.int a0, .int a1, .int a2, .int a3, .int a4, .int a5, .int a6, .int a7, .int a8, .int a9, .int a10, .int a11]))]) [0] (by decide) rfl
      have hK9 := hK.sub (tys' := []) [] rfl
      have ef : fx_X0_statusOfAct a0 a1 a2 a4 a5 a6 p0 p1 = fx_X0_statusByOutcome a0 p0 p1 := by unfold fx_X0_statusOfAct; rw [if_pos c_2, if_neg c_3]
      exact W.iret (v := fx_X0_statusByOutcome a0 p0 p1) hx hb hr (fun t ht hW => ⟨⟨(fx_X0_statusByOutcome a0 p0 p1), [(h0, .inr (0, [.int a0, .int a1, .int a2, .int a3, .int a4, .int a5, .int a6, .int a7, .int a8, .int a9, .int a10, .int a11]))], rfl, ⟨ef.symm, rfl⟩, by rw [ht]; exact hP9, va_K.moved hW.alike hK9, hD9⟩, hS.F ht⟩) hS.2.2 dX0_statusOfAct_33
    refine lv_aload_n hx hb dX0_statusOfAct_17 rfl (lv_at hl 1 rfl) ?_
    refine va_get (D := (dC, dI)) (ci := 0) (v := .int a5) (C := RX0) (T := TX0) (N := 12) hx hb hts (fun _ h => List.mem_cons_of_mem _ (List.mem_append_right _ h)) hown hK hP 0 rfl rfl 5 (by decide) (hts (.fieldLink RX0 23 "FileStatus" "endIsNext" "Z") (by decide +kernel)) (fun _ h9 => h9) rfl dX0_statusOfAct_18 ?_
    refine lv_if_eq (tgt := 27) hx hb dX0_statusOfAct_21 (by decide) (fun c_5 => ?_) (fun c_5 => ?_)
    · refine lv_aload_n hx hb dX0_statusOfAct_27 rfl (lv_at hl 1 rfl) ?_
      refine lv_iload_n hx hb dX0_statusOfAct_28 rfl (lv_at hl 2 rfl) ?_
      refine lv_iload_n hx hb dX0_statusOfAct_29 rfl (lv_at hl 3 rfl) ?_
      have hPc := hP.sub (ws' := [(h0, .inr (0, [.int a0, .int a1, .int a2, .int a3, .int a4, .int a5, .int a6, .int a7, .int a8, .int a9, .int a10, .int a11]))]) [0] rfl
      have hDc := hD.sub (ws' := [(h0, .inr (0, [.int a0, .int a1, .int a2, .int a3, .int a4, .int a5, .int a6, .int a7, .int a8, .int a9, .int a10, .int a11]))]) [0] (by decide) rfl
      have hKc := hK.sub (tys' := []) [] rfl
      have hFc := va_free (wc := [(h0, .inr (0, [.int a0, .int a1, .int a2, .int a3, .int a4, .int a5, .int a6, .int a7, .int a8, .int a9, .int a10, .int a11]))]) hD hS hA [0] rfl
      refine va_calli (va_runV (As := [.int p0, .int p1]) (rest := []) ⟨hx, hb, hml, hown, hts⟩ (ct_X0_statusByOutcome l dC dI h0 H.size a0 a1 a2 a3 a4 a5 a6 a7 a8 a9 a10 a11 p0 p1) (cwV 2 hts gX0_statusOfAct_X0_statusByOutcome rfl rfl rfl (by decide +kernel) ⟨Nat.le_of_ble_eq_true rfl, Nat.le_of_ble_eq_true rfl⟩) ⟨fun a U g mk q => by obtain ⟨q0, q1, qP, qK, qD⟩ := q; exact ⟨q0, q1, qP, va_K.moved (u := U) (U := U.calling g mk a) (Vm.Alike.refl U.vm) qK, qD⟩, va_recv hKc hPc (ci := 0) (q0 := 0) rfl rfl, fun U hU hW => ⟨rfl, by rw [hU], by rw [hU]; exact hPc, va_K.moved hW.alike hKc, hDc.weaken (fun _ _ _ _ => trivial)⟩⟩ rfl rfl hl.1 rfl (lv_room (Nat.le_of_ble_eq_true rfl)) dX0_statusOfAct_30 ⟨(Nat.zero_le _), (Nat.zero_le _)⟩) hS (fun q _ h => hFc q h) hFc (fun r_6 u t H1 locs ht hvm hw hB hz1 hk1 hS => ?_)
      obtain ⟨er, hu⟩ := hw
      subst hu
      subst er
      obtain ⟨hP1, hK1, hD1⟩ := hB
      rw [ht] at hP1
      have hK1 := va_K.moved hvm.symm hK1
      obtain ⟨hP, hD⟩ := va_join (wr := []) (w1 := [(h0, .inr (0, [.int a0, .int a1, .int a2, .int a3, .int a4, .int a5, .int a6, .int a7, .int a8, .int a9, .int a10, .int a11]))]) hP hD [0] [] rfl rfl (by decide) (by decide) hk1 hFc hP1 hD1
      have hK := (hK.sub (tys' := []) [] rfl).app hK1
      generalize H1 = H at hP hS ⊢
      have hP : va_P (dC, dI) vwCl [(h0, .inr (0, [.int a0, .int a1, .int a2, .int a3, .int a4, .int a5, .int a6, .int a7, .int a8, .int a9, .int a10, .int a11]))] H := hP
      have hD : va_D A [(h0, .inr (0, [.int a0, .int a1, .int a2, .int a3, .int a4, .int a5, .int a6, .int a7, .int a8, .int a9, .int a10, .int a11]))] := hD
      have hK : va_K (dC, dI) vwCl [] s := hK
      have hP9 := hP.sub (ws' := [(h0, .inr (0, [.int a0, .int a1, .int a2, .int a3, .int a4, .int a5, .int a6, .int a7, .int a8, .int a9, .int a10, .int a11]))]) [0] rfl
      have hD9 := hD.sub (ws' := [(h0, .inr (0, [.int a0, .int a1, .int a2, .int a3, .int a4, .int a5, .int a6, .int a7, .int a8, .int a9, .int a10, .int a11]))]) [0] (by decide) rfl
      have hK9 := hK.sub (tys' := []) [] rfl
      have ef : fx_X0_statusOfAct a0 a1 a2 a4 a5 a6 p0 p1 = fx_X0_statusByOutcome a0 p0 p1 := by unfold fx_X0_statusOfAct; rw [if_pos c_2, if_pos c_3, if_pos c_5]
      exact W.iret (v := fx_X0_statusByOutcome a0 p0 p1) hx hb hr (fun t ht hW => ⟨⟨(fx_X0_statusByOutcome a0 p0 p1), [(h0, .inr (0, [.int a0, .int a1, .int a2, .int a3, .int a4, .int a5, .int a6, .int a7, .int a8, .int a9, .int a10, .int a11]))], rfl, ⟨ef.symm, rfl⟩, by rw [ht]; exact hP9, va_K.moved hW.alike hK9, hD9⟩, hS.F ht⟩) hS.2.2 dX0_statusOfAct_33
    refine lv_bipush (v := 10) hx hb dX0_statusOfAct_24 (by decide) ?_
    have hP9 := hP.sub (ws' := [(h0, .inr (0, [.int a0, .int a1, .int a2, .int a3, .int a4, .int a5, .int a6, .int a7, .int a8, .int a9, .int a10, .int a11]))]) [0] rfl
    have hD9 := hD.sub (ws' := [(h0, .inr (0, [.int a0, .int a1, .int a2, .int a3, .int a4, .int a5, .int a6, .int a7, .int a8, .int a9, .int a10, .int a11]))]) [0] (by decide) rfl
    have hK9 := hK.sub (tys' := []) [] rfl
    have ef : fx_X0_statusOfAct a0 a1 a2 a4 a5 a6 p0 p1 = 10 := by unfold fx_X0_statusOfAct; rw [if_pos c_2, if_pos c_3, if_neg c_5]
    exact W.iret (v := 10) hx hb hr (fun t ht hW => ⟨⟨10, [(h0, .inr (0, [.int a0, .int a1, .int a2, .int a3, .int a4, .int a5, .int a6, .int a7, .int a8, .int a9, .int a10, .int a11]))], rfl, ⟨ef.symm, rfl⟩, by rw [ht]; exact hP9, va_K.moved hW.alike hK9, hD9⟩, hS.F ht⟩) hS.2.2 dX0_statusOfAct_26
  refine lv_iload_n hx hb dX0_statusOfAct_11 rfl (lv_at hl 0 rfl) ?_
  have hP9 := hP.sub (ws' := [(h0, .inr (0, [.int a0, .int a1, .int a2, .int a3, .int a4, .int a5, .int a6, .int a7, .int a8, .int a9, .int a10, .int a11]))]) [0] rfl
  have hD9 := hD.sub (ws' := [(h0, .inr (0, [.int a0, .int a1, .int a2, .int a3, .int a4, .int a5, .int a6, .int a7, .int a8, .int a9, .int a10, .int a11]))]) [0] (by decide) rfl
  have hK9 := hK.sub (tys' := []) [] rfl
  have ef : fx_X0_statusOfAct a0 a1 a2 a4 a5 a6 p0 p1 = fx_X0_statusAheadOfOutcome a0 a1 a2 a4 a6 p0 := by unfold fx_X0_statusOfAct; rw [if_neg c_2]
  exact W.iret (v := fx_X0_statusAheadOfOutcome a0 a1 a2 a4 a6 p0) hx hb hr (fun t ht hW => ⟨⟨(fx_X0_statusAheadOfOutcome a0 a1 a2 a4 a6 p0), [(h0, .inr (0, [.int a0, .int a1, .int a2, .int a3, .int a4, .int a5, .int a6, .int a7, .int a8, .int a9, .int a10, .int a11]))], rfl, ⟨ef.symm, rfl⟩, by rw [ht]; exact hP9, va_K.moved hW.alike hK9, hD9⟩, hS.F ht⟩) hS.2.2 dX0_statusOfAct_12
end
section
set_option maxHeartbeats 4000000 in
set_option maxRecDepth 100000 in
theorem ct_X0_act (l : Launch) (dC : Nat → ClassId) (dI : Nat → Nat → Nat) (h0 : Nat) (sz : Nat) (a0 a1 a2 a3 a4 a5 a6 a7 a8 a9 a10 a11 p0 p1 : Int32) : Met l yX0_act wsX0_act ({ frames := 4, cells := 0, slots := 0, locals := 86 }) (va_Pc [.ref h0, .int p0, .int p1] (fun U => U.heap.size = sz ∧ va_P (dC, dI) vwCl [(h0, .inr (0, [.int a0, .int a1, .int a2, .int a3, .int a4, .int a5, .int a6, .int a7, .int a8, .int a9, .int a10, .int a11]))] U.heap ∧ va_K (dC, dI) vwCl [] U ∧ va_D (fun _ => True) [(h0, .inr (0, [.int a0, .int a1, .int a2, .int a3, .int a4, .int a5, .int a6, .int a7, .int a8, .int a9, .int a10, .int a11]))])) (va_Qi (fun (r : Int32) (u : va_W) => r = fx_X0_act a0 a1 a2 a4 a5 a6 p0 p1 ∧ u = [(h0, .inr (0, [.int a0, .int a1, .int (gx_X0_act_2 a0 a1 a2 a4 a5 a6 p0 p1), .int a3, .int (gx_X0_act_4 a0 a1 a2 a4 a5 a6 p0 p1), .int (gx_X0_act_5 a5 p0), .int (gx_X0_act_6 a0 a1 a2 a4 a5 a6 p0 p1), .int (gx_X0_act_7 a0 a1 a2 a4 a5 a6 a7 p0 p1), .int (gx_X0_act_8 a8 p0), .int a9, .int (gx_X0_act_10 a0 a1 a2 a4 a5 a6 a10 p0 p1), .int (gx_X0_act_11 a0 a1 a2 a4 a5 a6 a11 p0 p1)]))]) (at_W dC dI (va_A [(h0, .inr (0, [.int a0, .int a1, .int a2, .int a3, .int a4, .int a5, .int a6, .int a7, .int a8, .int a9, .int a10, .int a11]))] sz)) (va_A [(h0, .inr (0, [.int a0, .int a1, .int a2, .int a3, .int a4, .int a5, .int a6, .int a7, .int a8, .int a9, .int a10, .int a11]))] sz)) 0 0 (va_A [(h0, .inr (0, [.int a0, .int a1, .int a2, .int a3, .int a4, .int a5, .int a6, .int a7, .int a8, .int a9, .int a10, .int a11]))] sz) := by
  refine Met.ofW (cc := cX0_act) (maxL := 4) (ret := (some .int)) (by decide) rfl ?_
  intro p e s m args below meth c s₁ B hml hv
  obtain ⟨rfl, hsz, hP, hK, hD0⟩ := hv
  have hx := B.exec
  have hb := B.bytes
  have hr := B.returns
  have hts := atoms_spec (ws := wsX0_act) B.pre
  have hown : s.vm.findClass RX0 = some m.cls := findClass_of_methodNamed B.named
  have hlocks := B.notSynchronized
  subst hsz
  have hD := hD0.self (sz := s.heap.size)
  generalize hAe : va_A [(h0, .inr (0, [.int a0, .int a1, .int a2, .int a3, .int a4, .int a5, .int a6, .int a7, .int a8, .int a9, .int a10, .int a11]))] s.heap.size = A at hD ⊢
  have hA : ∀ q : Nat, s.heap.size ≤ q → A q := fun q h => by rw [← hAe]; exact Or.inr h
  have hS : va_S A s.heap s.heap [] := va_S.rf
  have hP : va_P (dC, dI) vwCl [(h0, .inr (0, [.int a0, .int a1, .int a2, .int a3, .int a4, .int a5, .int a6, .int a7, .int a8, .int a9, .int a10, .int a11]))] s.heap := hP
  have hl := lv_entry ([.ref h0, .int p0, .int p1]) (n := 4) (Nat.le_of_ble_eq_true rfl)
  rw [lg_entry_eq]
  generalize (lg_sl ([.ref h0, .int p0, .int p1]) ++ List.replicate (4 - (lg_sl ([.ref h0, .int p0, .int p1])).length) Slot.unset).toArray = ls at hl ⊢
  have hl : lv_has ls 4 [(0, .ref h0), (1, .int p0), (2, .int p1)] := hl
  refine lv_iload_n hx hb dX0_act_0 rfl (lv_at hl 1 rfl) ?_
  refine lv_if_lt (tgt := 10) hx hb dX0_act_1 (by decide) (fun c_1 => ?_) (fun c_1 => ?_)
  · refine lv_bipush (v := (-4)) hx hb dX0_act_10 (by decide) ?_
    have hP9 := hP.sub (ws' := [(h0, .inr (0, [.int a0, .int a1, .int a2, .int a3, .int a4, .int a5, .int a6, .int a7, .int a8, .int a9, .int a10, .int a11]))]) [0] rfl
    have hD9 := hD.sub (ws' := [(h0, .inr (0, [.int a0, .int a1, .int a2, .int a3, .int a4, .int a5, .int a6, .int a7, .int a8, .int a9, .int a10, .int a11]))]) [0] (by decide) rfl
    have hK9 := hK.sub (tys' := []) [] rfl
    have eg_2 : gx_X0_act_2 a0 a1 a2 a4 a5 a6 p0 p1 = a2 := by unfold gx_X0_act_2; rw [if_pos c_1]
    have eg_4 : gx_X0_act_4 a0 a1 a2 a4 a5 a6 p0 p1 = a4 := by unfold gx_X0_act_4; rw [if_pos c_1]
    have eg_5 : gx_X0_act_5 a5 p0 = a5 := by unfold gx_X0_act_5; rw [if_pos c_1]
    have eg_6 : gx_X0_act_6 a0 a1 a2 a4 a5 a6 p0 p1 = a6 := by unfold gx_X0_act_6; rw [if_pos c_1]
    have eg_7 : gx_X0_act_7 a0 a1 a2 a4 a5 a6 a7 p0 p1 = a7 := by unfold gx_X0_act_7; rw [if_pos c_1]
    have eg_8 : gx_X0_act_8 a8 p0 = a8 := by unfold gx_X0_act_8; rw [if_pos c_1]
    have eg_10 : gx_X0_act_10 a0 a1 a2 a4 a5 a6 a10 p0 p1 = a10 := by unfold gx_X0_act_10; rw [if_pos c_1]
    have eg_11 : gx_X0_act_11 a0 a1 a2 a4 a5 a6 a11 p0 p1 = a11 := by unfold gx_X0_act_11; rw [if_pos c_1]
    have ef : fx_X0_act a0 a1 a2 a4 a5 a6 p0 p1 = (-4) := by unfold fx_X0_act; rw [if_pos c_1]
    exact W.iret (v := (-4)) hx hb hr (fun t ht hW => ⟨⟨(-4), [(h0, .inr (0, [.int a0, .int a1, .int a2, .int a3, .int a4, .int a5, .int a6, .int a7, .int a8, .int a9, .int a10, .int a11]))], rfl, ⟨ef.symm, by rw [eg_2, eg_4, eg_5, eg_6, eg_7, eg_8, eg_10, eg_11]⟩, by rw [ht]; exact hP9, va_K.moved hW.alike hK9, hD9⟩, hS.F ht⟩) hS.2.2 dX0_act_12
  refine lv_iload_n hx hb dX0_act_4 rfl (lv_at hl 1 rfl) ?_
  refine lv_bipush (v := 6) hx hb dX0_act_5 (by decide) ?_
  refine lv_icmp_le (tgt := 13) hx hb dX0_act_7 (by decide) (fun c_2 => ?_) (fun c_2 => ?_)
  · refine lv_aload_n hx hb dX0_act_13 rfl (lv_at hl 0 rfl) ?_
    refine lv_iload_n hx hb dX0_act_14 rfl (lv_at hl 1 rfl) ?_
    refine lv_iload_n hx hb dX0_act_15 rfl (lv_at hl 2 rfl) ?_
    have hPc := hP.sub (ws' := [(h0, .inr (0, [.int a0, .int a1, .int a2, .int a3, .int a4, .int a5, .int a6, .int a7, .int a8, .int a9, .int a10, .int a11]))]) [0] rfl
    have hDc := hD.sub (ws' := [(h0, .inr (0, [.int a0, .int a1, .int a2, .int a3, .int a4, .int a5, .int a6, .int a7, .int a8, .int a9, .int a10, .int a11]))]) [0] (by decide) rfl
    have hKc := hK.sub (tys' := []) [] rfl
    have hFc := va_free (wc := [(h0, .inr (0, [.int a0, .int a1, .int a2, .int a3, .int a4, .int a5, .int a6, .int a7, .int a8, .int a9, .int a10, .int a11]))]) hD hS hA [0] rfl
    refine va_calli (va_runV (As := [.int p0, .int p1]) (rest := []) ⟨hx, hb, hml, hown, hts⟩ (ct_X0_statusOfAct l dC dI h0 s.heap.size a0 a1 a2 a3 a4 a5 a6 a7 a8 a9 a10 a11 p0 p1) (cwV 2 hts gX0_act_X0_statusOfAct rfl rfl rfl (by decide +kernel) ⟨Nat.le_of_ble_eq_true rfl, Nat.le_of_ble_eq_true rfl⟩) ⟨fun a U g mk q => by obtain ⟨q0, q1, qP, qK, qD⟩ := q; exact ⟨q0, q1, qP, va_K.moved (u := U) (U := U.calling g mk a) (Vm.Alike.refl U.vm) qK, qD⟩, va_recv hKc hPc (ci := 0) (q0 := 0) rfl rfl, fun U hU hW => ⟨rfl, by rw [hU], by rw [hU]; exact hPc, va_K.moved hW.alike hKc, hDc.weaken (fun _ _ _ _ => trivial)⟩⟩ rfl rfl hl.1 rfl (lv_room (Nat.le_of_ble_eq_true rfl)) dX0_act_16 ⟨(Nat.zero_le _), (Nat.zero_le _)⟩) hS (fun q _ h => hFc q h) hFc (fun r_3 u t H1 locs ht hvm hw hB hz1 hk1 hS => ?_)
    obtain ⟨er, hu⟩ := hw
    subst hu
    subst er
    obtain ⟨hP1, hK1, hD1⟩ := hB
    rw [ht] at hP1
    have hK1 := va_K.moved hvm.symm hK1
    obtain ⟨hP, hD⟩ := va_join (wr := []) (w1 := [(h0, .inr (0, [.int a0, .int a1, .int a2, .int a3, .int a4, .int a5, .int a6, .int a7, .int a8, .int a9, .int a10, .int a11]))]) hP hD [0] [] rfl rfl (by decide) (by decide) hk1 hFc hP1 hD1
    have hK := (hK.sub (tys' := []) [] rfl).app hK1
    generalize H1 = H at hP hS ⊢
    have hP : va_P (dC, dI) vwCl [(h0, .inr (0, [.int a0, .int a1, .int a2, .int a3, .int a4, .int a5, .int a6, .int a7, .int a8, .int a9, .int a10, .int a11]))] H := hP
    have hD : va_D A [(h0, .inr (0, [.int a0, .int a1, .int a2, .int a3, .int a4, .int a5, .int a6, .int a7, .int a8, .int a9, .int a10, .int a11]))] := hD
    have hK : va_K (dC, dI) vwCl [] s := hK
    refine lv_istore_n (lv' := [(3, .int (fx_X0_statusOfAct a0 a1 a2 a4 a5 a6 p0 p1)), (0, .ref h0), (1, .int p0), (2, .int p1)]) hx hb dX0_act_19 rfl hl (by decide) rfl (fun ls hl => ?_)
    refine lv_iload_n hx hb dX0_act_20 rfl (lv_at hl 2 rfl) ?_
    refine lv_if_ne (tgt := 29) hx hb dX0_act_21 (by decide) (fun c_4 => ?_) (fun c_4 => ?_)
    · refine lv_aload_n hx hb dX0_act_29 rfl (lv_at hl 1 rfl) ?_
      refine lv_iload_n hx hb dX0_act_30 rfl (lv_at hl 2 rfl) ?_
      refine lv_iload_n hx hb dX0_act_31 rfl (lv_at hl 0 rfl) ?_
      have hPc := hP.sub (ws' := [(h0, .inr (0, [.int a0, .int a1, .int a2, .int a3, .int a4, .int a5, .int a6, .int a7, .int a8, .int a9, .int a10, .int a11]))]) [0] rfl
      have hDc := hD.sub (ws' := [(h0, .inr (0, [.int a0, .int a1, .int a2, .int a3, .int a4, .int a5, .int a6, .int a7, .int a8, .int a9, .int a10, .int a11]))]) [0] (by decide) rfl
      have hKc := hK.sub (tys' := []) [] rfl
      have hFc := va_free (wc := [(h0, .inr (0, [.int a0, .int a1, .int a2, .int a3, .int a4, .int a5, .int a6, .int a7, .int a8, .int a9, .int a10, .int a11]))]) hD hS hA [0] rfl
      refine va_callv (va_runV (As := [.int p0, .int (fx_X0_statusOfAct a0 a1 a2 a4 a5 a6 p0 p1)]) (rest := []) ⟨hx, hb, hml, hown, hts⟩ (ct_X0_move l dC dI h0 H.size a0 a1 a2 a3 a4 a5 a6 a7 a8 a9 a10 a11 p0 (fx_X0_statusOfAct a0 a1 a2 a4 a5 a6 p0 p1)) (cwV 2 hts gX0_act_X0_move rfl rfl rfl (by decide +kernel) ⟨Nat.le_of_ble_eq_true rfl, Nat.le_of_ble_eq_true rfl⟩) ⟨fun a U g mk q => by obtain ⟨q0, q1, qP, qK, qD⟩ := q; exact ⟨q0, q1, qP, va_K.moved (u := U) (U := U.calling g mk a) (Vm.Alike.refl U.vm) qK, qD⟩, va_recv hKc hPc (ci := 0) (q0 := 0) rfl rfl, fun U hU hW => ⟨rfl, by rw [hU], by rw [hU]; exact hPc, va_K.moved hW.alike hKc, hDc.weaken (fun _ _ _ _ => trivial)⟩⟩ rfl rfl hl.1 rfl (lv_room (Nat.le_of_ble_eq_true rfl)) dX0_act_32 ⟨(Nat.zero_le _), (Nat.zero_le _)⟩) hS (fun q _ h => hFc q h) hFc (fun u t H1 locs ht hvm hw hB hz1 hk1 hS => ?_)
      subst hw
      obtain ⟨hP1, hK1, hD1⟩ := hB
      rw [ht] at hP1
      have hK1 := va_K.moved hvm.symm hK1
      obtain ⟨hP, hD⟩ := va_join (wr := []) (w1 := [(h0, .inr (0, [.int a0, .int a1, .int (gx_X0_move_2 a2 p0 (fx_X0_statusOfAct a0 a1 a2 a4 a5 a6 p0 p1)), .int a3, .int (gx_X0_move_4 a4 p0 (fx_X0_statusOfAct a0 a1 a2 a4 a5 a6 p0 p1)), .int a5, .int a6, .int a7, .int a8, .int a9, .int a10, .int a11]))]) hP hD [0] [] rfl rfl (by decide) (by decide) hk1 hFc hP1 hD1
      have hK := (hK.sub (tys' := []) [] rfl).app hK1
      generalize H1 = H at hP hS ⊢
      have hP : va_P (dC, dI) vwCl [(h0, .inr (0, [.int a0, .int a1, .int (gx_X0_move_2 a2 p0 (fx_X0_statusOfAct a0 a1 a2 a4 a5 a6 p0 p1)), .int a3, .int (gx_X0_move_4 a4 p0 (fx_X0_statusOfAct a0 a1 a2 a4 a5 a6 p0 p1)), .int a5, .int a6, .int a7, .int a8, .int a9, .int a10, .int a11]))] H := hP
      have hD : va_D A [(h0, .inr (0, [.int a0, .int a1, .int (gx_X0_move_2 a2 p0 (fx_X0_statusOfAct a0 a1 a2 a4 a5 a6 p0 p1)), .int a3, .int (gx_X0_move_4 a4 p0 (fx_X0_statusOfAct a0 a1 a2 a4 a5 a6 p0 p1)), .int a5, .int a6, .int a7, .int a8, .int a9, .int a10, .int a11]))] := hD
      have hK : va_K (dC, dI) vwCl [] s := hK
      refine lv_aload_n hx hb dX0_act_35 rfl (lv_at hl 1 rfl) ?_
      refine lv_iload_n hx hb dX0_act_36 rfl (lv_at hl 2 rfl) ?_
      have hPc := hP.sub (ws' := []) [] rfl
      have hDc := hD.sub (ws' := []) [] (by decide) rfl
      have hKc := hK.sub (tys' := []) [] rfl
      have hFc := va_free (wc := []) hD hS hA [] rfl
      refine va_calli (va_runS (As := [.int p0]) (rest := [.ref h0]) ⟨hx, hb, hml, hown, hts⟩ (ct_X0_isRead l dC dI H.size p0) (va_cwS 1 hts gX0_act_X0_isRead rfl rfl rfl (by decide +kernel) ⟨Nat.le_of_ble_eq_true rfl, Nat.le_of_ble_eq_true rfl⟩) ⟨fun a U g mk q => by obtain ⟨q0, q1, qP, qK, qD⟩ := q; exact ⟨q0, q1, qP, va_K.moved (u := U) (U := U.calling g mk a) (Vm.Alike.refl U.vm) qK, qD⟩, fun U hU hW => ⟨rfl, by rw [hU], by rw [hU]; exact hPc, va_K.moved hW.alike hKc, hDc.weaken (fun _ _ _ _ => trivial)⟩⟩ rfl rfl hl.1 rfl (lv_room (Nat.le_of_ble_eq_true rfl)) dX0_act_37 ⟨(Nat.zero_le _), (Nat.zero_le _)⟩) hS (fun q _ h => hFc q h) hFc (fun r_6 u t H1 locs ht hvm hw hB hz1 hk1 hS => ?_)
      obtain ⟨er, hu⟩ := hw
      subst hu
      subst er
      obtain ⟨hP1, hK1, hD1⟩ := hB
      rw [ht] at hP1
      have hK1 := va_K.moved hvm.symm hK1
      obtain ⟨hP, hD⟩ := va_join (wr := [(h0, .inr (0, [.int a0, .int a1, .int (gx_X0_move_2 a2 p0 (fx_X0_statusOfAct a0 a1 a2 a4 a5 a6 p0 p1)), .int a3, .int (gx_X0_move_4 a4 p0 (fx_X0_statusOfAct a0 a1 a2 a4 a5 a6 p0 p1)), .int a5, .int a6, .int a7, .int a8, .int a9, .int a10, .int a11]))]) (w1 := []) hP hD [] [0] rfl rfl (by decide) (by decide) hk1 hFc hP1 hD1
      have hK := (hK.sub (tys' := []) [] rfl).app hK1
      generalize H1 = H at hP hS ⊢
      have hP : va_P (dC, dI) vwCl [(h0, .inr (0, [.int a0, .int a1, .int (gx_X0_move_2 a2 p0 (fx_X0_statusOfAct a0 a1 a2 a4 a5 a6 p0 p1)), .int a3, .int (gx_X0_move_4 a4 p0 (fx_X0_statusOfAct a0 a1 a2 a4 a5 a6 p0 p1)), .int a5, .int a6, .int a7, .int a8, .int a9, .int a10, .int a11]))] H := hP
      have hD : va_D A [(h0, .inr (0, [.int a0, .int a1, .int (gx_X0_move_2 a2 p0 (fx_X0_statusOfAct a0 a1 a2 a4 a5 a6 p0 p1)), .int a3, .int (gx_X0_move_4 a4 p0 (fx_X0_statusOfAct a0 a1 a2 a4 a5 a6 p0 p1)), .int a5, .int a6, .int a7, .int a8, .int a9, .int a10, .int a11]))] := hD
      have hK : va_K (dC, dI) vwCl [] s := hK
      refine lv_if_eq (tgt := 54) hx hb dX0_act_40 (by decide) (fun c_7 => ?_) (fun c_7 => ?_)
      · refine lv_iconst (v := 0) hx hb dX0_act_54 (by decide) ?_
        refine va_put (D := (dC, dI)) (ci := 0) (v := .int 0) (ty := .boolean) (C := RX0) (T := TX0) (N := 12) hx hb hts (fun _ h => List.mem_cons_of_mem _ (List.mem_append_right _ h)) tyX0 tyX0_ok nmX0 hown hK hP hD hS 0 rfl rfl 6 (by decide) (hts (.fieldLink RX0 26 "FileStatus" "permit" "Z") (by decide +kernel)) (fun _ h9 => h9) rfl (by decide +kernel) rfl rfl (Nat.le_of_ble_eq_true rfl) dX0_act_55 (fun H locs hP hD hS => ?_)
        have hP : va_P (dC, dI) vwCl [(h0, .inr (0, [.int a0, .int a1, .int (gx_X0_move_2 a2 p0 (fx_X0_statusOfAct a0 a1 a2 a4 a5 a6 p0 p1)), .int a3, .int (gx_X0_move_4 a4 p0 (fx_X0_statusOfAct a0 a1 a2 a4 a5 a6 p0 p1)), .int a5, .int 0, .int a7, .int a8, .int a9, .int a10, .int a11]))] H := hP
        have hD : va_D A [(h0, .inr (0, [.int a0, .int a1, .int (gx_X0_move_2 a2 p0 (fx_X0_statusOfAct a0 a1 a2 a4 a5 a6 p0 p1)), .int a3, .int (gx_X0_move_4 a4 p0 (fx_X0_statusOfAct a0 a1 a2 a4 a5 a6 p0 p1)), .int a5, .int 0, .int a7, .int a8, .int a9, .int a10, .int a11]))] := hD
        refine lv_aload_n hx hb dX0_act_58 rfl (lv_at hl 1 rfl) ?_
        refine lv_iload_n hx hb dX0_act_59 rfl (lv_at hl 2 rfl) ?_
        refine lv_iload_n hx hb dX0_act_60 rfl (lv_at hl 0 rfl) ?_
        have hPc := hP.sub (ws' := [(h0, .inr (0, [.int a0, .int a1, .int (gx_X0_move_2 a2 p0 (fx_X0_statusOfAct a0 a1 a2 a4 a5 a6 p0 p1)), .int a3, .int (gx_X0_move_4 a4 p0 (fx_X0_statusOfAct a0 a1 a2 a4 a5 a6 p0 p1)), .int a5, .int 0, .int a7, .int a8, .int a9, .int a10, .int a11]))]) [0] rfl
        have hDc := hD.sub (ws' := [(h0, .inr (0, [.int a0, .int a1, .int (gx_X0_move_2 a2 p0 (fx_X0_statusOfAct a0 a1 a2 a4 a5 a6 p0 p1)), .int a3, .int (gx_X0_move_4 a4 p0 (fx_X0_statusOfAct a0 a1 a2 a4 a5 a6 p0 p1)), .int a5, .int 0, .int a7, .int a8, .int a9, .int a10, .int a11]))]) [0] (by decide) rfl
        have hKc := hK.sub (tys' := []) [] rfl
        have hFc := va_free (wc := [(h0, .inr (0, [.int a0, .int a1, .int (gx_X0_move_2 a2 p0 (fx_X0_statusOfAct a0 a1 a2 a4 a5 a6 p0 p1)), .int a3, .int (gx_X0_move_4 a4 p0 (fx_X0_statusOfAct a0 a1 a2 a4 a5 a6 p0 p1)), .int a5, .int 0, .int a7, .int a8, .int a9, .int a10, .int a11]))]) hD hS hA [0] rfl
        refine va_callv (va_runV (As := [.int p0, .int (fx_X0_statusOfAct a0 a1 a2 a4 a5 a6 p0 p1)]) (rest := []) ⟨hx, hb, hml, hown, hts⟩ (ct_X0_remember l dC dI h0 H.size a0 a1 (gx_X0_move_2 a2 p0 (fx_X0_statusOfAct a0 a1 a2 a4 a5 a6 p0 p1)) a3 (gx_X0_move_4 a4 p0 (fx_X0_statusOfAct a0 a1 a2 a4 a5 a6 p0 p1)) a5 0 a7 a8 a9 a10 a11 p0 (fx_X0_statusOfAct a0 a1 a2 a4 a5 a6 p0 p1)) (cwV 2 hts gX0_act_X0_remember rfl rfl rfl (by decide +kernel) ⟨Nat.le_of_ble_eq_true rfl, Nat.le_of_ble_eq_true rfl⟩) ⟨fun a U g mk q => by obtain ⟨q0, q1, qP, qK, qD⟩ := q; exact ⟨q0, q1, qP, va_K.moved (u := U) (U := U.calling g mk a) (Vm.Alike.refl U.vm) qK, qD⟩, va_recv hKc hPc (ci := 0) (q0 := 0) rfl rfl, fun U hU hW => ⟨rfl, by rw [hU], by rw [hU]; exact hPc, va_K.moved hW.alike hKc, hDc.weaken (fun _ _ _ _ => trivial)⟩⟩ rfl rfl hl.1 rfl (lv_room (Nat.le_of_ble_eq_true rfl)) dX0_act_61 ⟨(Nat.zero_le _), (Nat.zero_le _)⟩) hS (fun q _ h => hFc q h) hFc (fun u t H1 locs ht hvm hw hB hz1 hk1 hS => ?_)
        subst hw
        obtain ⟨hP1, hK1, hD1⟩ := hB
        rw [ht] at hP1
        have hK1 := va_K.moved hvm.symm hK1
        obtain ⟨hP, hD⟩ := va_join (wr := []) (w1 := [(h0, .inr (0, [.int a0, .int a1, .int (gx_X0_move_2 a2 p0 (fx_X0_statusOfAct a0 a1 a2 a4 a5 a6 p0 p1)), .int a3, .int (gx_X0_move_4 a4 p0 (fx_X0_statusOfAct a0 a1 a2 a4 a5 a6 p0 p1)), .int a5, .int 0, .int (gx_X0_remember_7 (fx_X0_statusOfAct a0 a1 a2 a4 a5 a6 p0 p1)), .int (gx_X0_remember_8 p0), .int a9, .int (gx_X0_remember_10 a10 p0 (fx_X0_statusOfAct a0 a1 a2 a4 a5 a6 p0 p1)), .int (gx_X0_remember_11 a11 (fx_X0_statusOfAct a0 a1 a2 a4 a5 a6 p0 p1))]))]) hP hD [0] [] rfl rfl (by decide) (by decide) hk1 hFc hP1 hD1
        have hK := (hK.sub (tys' := []) [] rfl).app hK1
        generalize H1 = H at hP hS ⊢
        have hP : va_P (dC, dI) vwCl [(h0, .inr (0, [.int a0, .int a1, .int (gx_X0_move_2 a2 p0 (fx_X0_statusOfAct a0 a1 a2 a4 a5 a6 p0 p1)), .int a3, .int (gx_X0_move_4 a4 p0 (fx_X0_statusOfAct a0 a1 a2 a4 a5 a6 p0 p1)), .int a5, .int 0, .int (gx_X0_remember_7 (fx_X0_statusOfAct a0 a1 a2 a4 a5 a6 p0 p1)), .int (gx_X0_remember_8 p0), .int a9, .int (gx_X0_remember_10 a10 p0 (fx_X0_statusOfAct a0 a1 a2 a4 a5 a6 p0 p1)), .int (gx_X0_remember_11 a11 (fx_X0_statusOfAct a0 a1 a2 a4 a5 a6 p0 p1))]))] H := hP
        have hD : va_D A [(h0, .inr (0, [.int a0, .int a1, .int (gx_X0_move_2 a2 p0 (fx_X0_statusOfAct a0 a1 a2 a4 a5 a6 p0 p1)), .int a3, .int (gx_X0_move_4 a4 p0 (fx_X0_statusOfAct a0 a1 a2 a4 a5 a6 p0 p1)), .int a5, .int 0, .int (gx_X0_remember_7 (fx_X0_statusOfAct a0 a1 a2 a4 a5 a6 p0 p1)), .int (gx_X0_remember_8 p0), .int a9, .int (gx_X0_remember_10 a10 p0 (fx_X0_statusOfAct a0 a1 a2 a4 a5 a6 p0 p1)), .int (gx_X0_remember_11 a11 (fx_X0_statusOfAct a0 a1 a2 a4 a5 a6 p0 p1))]))] := hD
        have hK : va_K (dC, dI) vwCl [] s := hK
        refine lv_iload_n hx hb dX0_act_64 rfl (lv_at hl 0 rfl) ?_
        have hP9 := hP.sub (ws' := [(h0, .inr (0, [.int a0, .int a1, .int (gx_X0_move_2 a2 p0 (fx_X0_statusOfAct a0 a1 a2 a4 a5 a6 p0 p1)), .int a3, .int (gx_X0_move_4 a4 p0 (fx_X0_statusOfAct a0 a1 a2 a4 a5 a6 p0 p1)), .int a5, .int 0, .int (gx_X0_remember_7 (fx_X0_statusOfAct a0 a1 a2 a4 a5 a6 p0 p1)), .int (gx_X0_remember_8 p0), .int a9, .int (gx_X0_remember_10 a10 p0 (fx_X0_statusOfAct a0 a1 a2 a4 a5 a6 p0 p1)), .int (gx_X0_remember_11 a11 (fx_X0_statusOfAct a0 a1 a2 a4 a5 a6 p0 p1))]))]) [0] rfl
        have hD9 := hD.sub (ws' := [(h0, .inr (0, [.int a0, .int a1, .int (gx_X0_move_2 a2 p0 (fx_X0_statusOfAct a0 a1 a2 a4 a5 a6 p0 p1)), .int a3, .int (gx_X0_move_4 a4 p0 (fx_X0_statusOfAct a0 a1 a2 a4 a5 a6 p0 p1)), .int a5, .int 0, .int (gx_X0_remember_7 (fx_X0_statusOfAct a0 a1 a2 a4 a5 a6 p0 p1)), .int (gx_X0_remember_8 p0), .int a9, .int (gx_X0_remember_10 a10 p0 (fx_X0_statusOfAct a0 a1 a2 a4 a5 a6 p0 p1)), .int (gx_X0_remember_11 a11 (fx_X0_statusOfAct a0 a1 a2 a4 a5 a6 p0 p1))]))]) [0] (by decide) rfl
        have hK9 := hK.sub (tys' := []) [] rfl
        have eg_2 : gx_X0_act_2 a0 a1 a2 a4 a5 a6 p0 p1 = gx_X0_move_2 a2 p0 (fx_X0_statusOfAct a0 a1 a2 a4 a5 a6 p0 p1) := by unfold gx_X0_act_2; rw [if_neg c_1, if_pos c_2]
        have eg_4 : gx_X0_act_4 a0 a1 a2 a4 a5 a6 p0 p1 = gx_X0_move_4 a4 p0 (fx_X0_statusOfAct a0 a1 a2 a4 a5 a6 p0 p1) := by unfold gx_X0_act_4; rw [if_neg c_1, if_pos c_2]
        have eg_5 : gx_X0_act_5 a5 p0 = a5 := by unfold gx_X0_act_5; rw [if_neg c_1, if_pos c_2, if_neg c_4]
        have eg_6 : gx_X0_act_6 a0 a1 a2 a4 a5 a6 p0 p1 = 0 := by unfold gx_X0_act_6; rw [if_neg c_1, if_pos c_2, if_pos c_7]
        have eg_7 : gx_X0_act_7 a0 a1 a2 a4 a5 a6 a7 p0 p1 = gx_X0_remember_7 (fx_X0_statusOfAct a0 a1 a2 a4 a5 a6 p0 p1) := by unfold gx_X0_act_7; rw [if_neg c_1, if_pos c_2]
        have eg_8 : gx_X0_act_8 a8 p0 = gx_X0_remember_8 p0 := by unfold gx_X0_act_8; rw [if_neg c_1, if_pos c_2]
        have eg_10 : gx_X0_act_10 a0 a1 a2 a4 a5 a6 a10 p0 p1 = gx_X0_remember_10 a10 p0 (fx_X0_statusOfAct a0 a1 a2 a4 a5 a6 p0 p1) := by unfold gx_X0_act_10; rw [if_neg c_1, if_pos c_2]
        have eg_11 : gx_X0_act_11 a0 a1 a2 a4 a5 a6 a11 p0 p1 = gx_X0_remember_11 a11 (fx_X0_statusOfAct a0 a1 a2 a4 a5 a6 p0 p1) := by unfold gx_X0_act_11; rw [if_neg c_1, if_pos c_2]
        have ef : fx_X0_act a0 a1 a2 a4 a5 a6 p0 p1 = fx_X0_statusOfAct a0 a1 a2 a4 a5 a6 p0 p1 := by unfold fx_X0_act; rw [if_neg c_1, if_pos c_2]
        exact W.iret (v := fx_X0_statusOfAct a0 a1 a2 a4 a5 a6 p0 p1) hx hb hr (fun t ht hW => ⟨⟨(fx_X0_statusOfAct a0 a1 a2 a4 a5 a6 p0 p1), [(h0, .inr (0, [.int a0, .int a1, .int (gx_X0_move_2 a2 p0 (fx_X0_statusOfAct a0 a1 a2 a4 a5 a6 p0 p1)), .int a3, .int (gx_X0_move_4 a4 p0 (fx_X0_statusOfAct a0 a1 a2 a4 a5 a6 p0 p1)), .int a5, .int 0, .int (gx_X0_remember_7 (fx_X0_statusOfAct a0 a1 a2 a4 a5 a6 p0 p1)), .int (gx_X0_remember_8 p0), .int a9, .int (gx_X0_remember_10 a10 p0 (fx_X0_statusOfAct a0 a1 a2 a4 a5 a6 p0 p1)), .int (gx_X0_remember_11 a11 (fx_X0_statusOfAct a0 a1 a2 a4 a5 a6 p0 p1))]))], rfl, ⟨ef.symm, by rw [eg_2, eg_4, eg_5, eg_6, eg_7, eg_8, eg_10, eg_11]⟩, by rw [ht]; exact hP9, va_K.moved hW.alike hK9, hD9⟩, hS.F ht⟩) hS.2.2 dX0_act_65
      refine lv_iload_n hx hb dX0_act_43 rfl (lv_at hl 0 rfl) ?_
      have hPc := hP.sub (ws' := []) [] rfl
      have hDc := hD.sub (ws' := []) [] (by decide) rfl
      have hKc := hK.sub (tys' := []) [] rfl
      have hFc := va_free (wc := []) hD hS hA [] rfl
      refine va_calli (va_runS (As := [.int (fx_X0_statusOfAct a0 a1 a2 a4 a5 a6 p0 p1)]) (rest := [.ref h0]) ⟨hx, hb, hml, hown, hts⟩ (ct_X0_givesPlace l dC dI H.size (fx_X0_statusOfAct a0 a1 a2 a4 a5 a6 p0 p1)) (va_cwS 1 hts gX0_act_X0_givesPlace rfl rfl rfl (by decide +kernel) ⟨Nat.le_of_ble_eq_true rfl, Nat.le_of_ble_eq_true rfl⟩) ⟨fun a U g mk q => by obtain ⟨q0, q1, qP, qK, qD⟩ := q; exact ⟨q0, q1, qP, va_K.moved (u := U) (U := U.calling g mk a) (Vm.Alike.refl U.vm) qK, qD⟩, fun U hU hW => ⟨rfl, by rw [hU], by rw [hU]; exact hPc, va_K.moved hW.alike hKc, hDc.weaken (fun _ _ _ _ => trivial)⟩⟩ rfl rfl hl.1 rfl (lv_room (Nat.le_of_ble_eq_true rfl)) dX0_act_44 ⟨(Nat.zero_le _), (Nat.zero_le _)⟩) hS (fun q _ h => hFc q h) hFc (fun r_9 u t H1 locs ht hvm hw hB hz1 hk1 hS => ?_)
      obtain ⟨er, hu⟩ := hw
      subst hu
      subst er
      obtain ⟨hP1, hK1, hD1⟩ := hB
      rw [ht] at hP1
      have hK1 := va_K.moved hvm.symm hK1
      obtain ⟨hP, hD⟩ := va_join (wr := [(h0, .inr (0, [.int a0, .int a1, .int (gx_X0_move_2 a2 p0 (fx_X0_statusOfAct a0 a1 a2 a4 a5 a6 p0 p1)), .int a3, .int (gx_X0_move_4 a4 p0 (fx_X0_statusOfAct a0 a1 a2 a4 a5 a6 p0 p1)), .int a5, .int a6, .int a7, .int a8, .int a9, .int a10, .int a11]))]) (w1 := []) hP hD [] [0] rfl rfl (by decide) (by decide) hk1 hFc hP1 hD1
      have hK := (hK.sub (tys' := []) [] rfl).app hK1
      generalize H1 = H at hP hS ⊢
      have hP : va_P (dC, dI) vwCl [(h0, .inr (0, [.int a0, .int a1, .int (gx_X0_move_2 a2 p0 (fx_X0_statusOfAct a0 a1 a2 a4 a5 a6 p0 p1)), .int a3, .int (gx_X0_move_4 a4 p0 (fx_X0_statusOfAct a0 a1 a2 a4 a5 a6 p0 p1)), .int a5, .int a6, .int a7, .int a8, .int a9, .int a10, .int a11]))] H := hP
      have hD : va_D A [(h0, .inr (0, [.int a0, .int a1, .int (gx_X0_move_2 a2 p0 (fx_X0_statusOfAct a0 a1 a2 a4 a5 a6 p0 p1)), .int a3, .int (gx_X0_move_4 a4 p0 (fx_X0_statusOfAct a0 a1 a2 a4 a5 a6 p0 p1)), .int a5, .int a6, .int a7, .int a8, .int a9, .int a10, .int a11]))] := hD
      have hK : va_K (dC, dI) vwCl [] s := hK
      refine lv_if_eq (tgt := 54) hx hb dX0_act_47 (by decide) (fun c_10 => ?_) (fun c_10 => ?_)
      · refine lv_iconst (v := 0) hx hb dX0_act_54 (by decide) ?_
        refine va_put (D := (dC, dI)) (ci := 0) (v := .int 0) (ty := .boolean) (C := RX0) (T := TX0) (N := 12) hx hb hts (fun _ h => List.mem_cons_of_mem _ (List.mem_append_right _ h)) tyX0 tyX0_ok nmX0 hown hK hP hD hS 0 rfl rfl 6 (by decide) (hts (.fieldLink RX0 26 "FileStatus" "permit" "Z") (by decide +kernel)) (fun _ h9 => h9) rfl (by decide +kernel) rfl rfl (Nat.le_of_ble_eq_true rfl) dX0_act_55 (fun H locs hP hD hS => ?_)
        have hP : va_P (dC, dI) vwCl [(h0, .inr (0, [.int a0, .int a1, .int (gx_X0_move_2 a2 p0 (fx_X0_statusOfAct a0 a1 a2 a4 a5 a6 p0 p1)), .int a3, .int (gx_X0_move_4 a4 p0 (fx_X0_statusOfAct a0 a1 a2 a4 a5 a6 p0 p1)), .int a5, .int 0, .int a7, .int a8, .int a9, .int a10, .int a11]))] H := hP
        have hD : va_D A [(h0, .inr (0, [.int a0, .int a1, .int (gx_X0_move_2 a2 p0 (fx_X0_statusOfAct a0 a1 a2 a4 a5 a6 p0 p1)), .int a3, .int (gx_X0_move_4 a4 p0 (fx_X0_statusOfAct a0 a1 a2 a4 a5 a6 p0 p1)), .int a5, .int 0, .int a7, .int a8, .int a9, .int a10, .int a11]))] := hD
        refine lv_aload_n hx hb dX0_act_58 rfl (lv_at hl 1 rfl) ?_
        refine lv_iload_n hx hb dX0_act_59 rfl (lv_at hl 2 rfl) ?_
        refine lv_iload_n hx hb dX0_act_60 rfl (lv_at hl 0 rfl) ?_
        have hPc := hP.sub (ws' := [(h0, .inr (0, [.int a0, .int a1, .int (gx_X0_move_2 a2 p0 (fx_X0_statusOfAct a0 a1 a2 a4 a5 a6 p0 p1)), .int a3, .int (gx_X0_move_4 a4 p0 (fx_X0_statusOfAct a0 a1 a2 a4 a5 a6 p0 p1)), .int a5, .int 0, .int a7, .int a8, .int a9, .int a10, .int a11]))]) [0] rfl
        have hDc := hD.sub (ws' := [(h0, .inr (0, [.int a0, .int a1, .int (gx_X0_move_2 a2 p0 (fx_X0_statusOfAct a0 a1 a2 a4 a5 a6 p0 p1)), .int a3, .int (gx_X0_move_4 a4 p0 (fx_X0_statusOfAct a0 a1 a2 a4 a5 a6 p0 p1)), .int a5, .int 0, .int a7, .int a8, .int a9, .int a10, .int a11]))]) [0] (by decide) rfl
        have hKc := hK.sub (tys' := []) [] rfl
        have hFc := va_free (wc := [(h0, .inr (0, [.int a0, .int a1, .int (gx_X0_move_2 a2 p0 (fx_X0_statusOfAct a0 a1 a2 a4 a5 a6 p0 p1)), .int a3, .int (gx_X0_move_4 a4 p0 (fx_X0_statusOfAct a0 a1 a2 a4 a5 a6 p0 p1)), .int a5, .int 0, .int a7, .int a8, .int a9, .int a10, .int a11]))]) hD hS hA [0] rfl
        refine va_callv (va_runV (As := [.int p0, .int (fx_X0_statusOfAct a0 a1 a2 a4 a5 a6 p0 p1)]) (rest := []) ⟨hx, hb, hml, hown, hts⟩ (ct_X0_remember l dC dI h0 H.size a0 a1 (gx_X0_move_2 a2 p0 (fx_X0_statusOfAct a0 a1 a2 a4 a5 a6 p0 p1)) a3 (gx_X0_move_4 a4 p0 (fx_X0_statusOfAct a0 a1 a2 a4 a5 a6 p0 p1)) a5 0 a7 a8 a9 a10 a11 p0 (fx_X0_statusOfAct a0 a1 a2 a4 a5 a6 p0 p1)) (cwV 2 hts gX0_act_X0_remember rfl rfl rfl (by decide +kernel) ⟨Nat.le_of_ble_eq_true rfl, Nat.le_of_ble_eq_true rfl⟩) ⟨fun a U g mk q => by obtain ⟨q0, q1, qP, qK, qD⟩ := q; exact ⟨q0, q1, qP, va_K.moved (u := U) (U := U.calling g mk a) (Vm.Alike.refl U.vm) qK, qD⟩, va_recv hKc hPc (ci := 0) (q0 := 0) rfl rfl, fun U hU hW => ⟨rfl, by rw [hU], by rw [hU]; exact hPc, va_K.moved hW.alike hKc, hDc.weaken (fun _ _ _ _ => trivial)⟩⟩ rfl rfl hl.1 rfl (lv_room (Nat.le_of_ble_eq_true rfl)) dX0_act_61 ⟨(Nat.zero_le _), (Nat.zero_le _)⟩) hS (fun q _ h => hFc q h) hFc (fun u t H1 locs ht hvm hw hB hz1 hk1 hS => ?_)
        subst hw
        obtain ⟨hP1, hK1, hD1⟩ := hB
        rw [ht] at hP1
        have hK1 := va_K.moved hvm.symm hK1
        obtain ⟨hP, hD⟩ := va_join (wr := []) (w1 := [(h0, .inr (0, [.int a0, .int a1, .int (gx_X0_move_2 a2 p0 (fx_X0_statusOfAct a0 a1 a2 a4 a5 a6 p0 p1)), .int a3, .int (gx_X0_move_4 a4 p0 (fx_X0_statusOfAct a0 a1 a2 a4 a5 a6 p0 p1)), .int a5, .int 0, .int (gx_X0_remember_7 (fx_X0_statusOfAct a0 a1 a2 a4 a5 a6 p0 p1)), .int (gx_X0_remember_8 p0), .int a9, .int (gx_X0_remember_10 a10 p0 (fx_X0_statusOfAct a0 a1 a2 a4 a5 a6 p0 p1)), .int (gx_X0_remember_11 a11 (fx_X0_statusOfAct a0 a1 a2 a4 a5 a6 p0 p1))]))]) hP hD [0] [] rfl rfl (by decide) (by decide) hk1 hFc hP1 hD1
        have hK := (hK.sub (tys' := []) [] rfl).app hK1
        generalize H1 = H at hP hS ⊢
        have hP : va_P (dC, dI) vwCl [(h0, .inr (0, [.int a0, .int a1, .int (gx_X0_move_2 a2 p0 (fx_X0_statusOfAct a0 a1 a2 a4 a5 a6 p0 p1)), .int a3, .int (gx_X0_move_4 a4 p0 (fx_X0_statusOfAct a0 a1 a2 a4 a5 a6 p0 p1)), .int a5, .int 0, .int (gx_X0_remember_7 (fx_X0_statusOfAct a0 a1 a2 a4 a5 a6 p0 p1)), .int (gx_X0_remember_8 p0), .int a9, .int (gx_X0_remember_10 a10 p0 (fx_X0_statusOfAct a0 a1 a2 a4 a5 a6 p0 p1)), .int (gx_X0_remember_11 a11 (fx_X0_statusOfAct a0 a1 a2 a4 a5 a6 p0 p1))]))] H := hP
        have hD : va_D A [(h0, .inr (0, [.int a0, .int a1, .int (gx_X0_move_2 a2 p0 (fx_X0_statusOfAct a0 a1 a2 a4 a5 a6 p0 p1)), .int a3, .int (gx_X0_move_4 a4 p0 (fx_X0_statusOfAct a0 a1 a2 a4 a5 a6 p0 p1)), .int a5, .int 0, .int (gx_X0_remember_7 (fx_X0_statusOfAct a0 a1 a2 a4 a5 a6 p0 p1)), .int (gx_X0_remember_8 p0), .int a9, .int (gx_X0_remember_10 a10 p0 (fx_X0_statusOfAct a0 a1 a2 a4 a5 a6 p0 p1)), .int (gx_X0_remember_11 a11 (fx_X0_statusOfAct a0 a1 a2 a4 a5 a6 p0 p1))]))] := hD
        have hK : va_K (dC, dI) vwCl [] s := hK
        refine lv_iload_n hx hb dX0_act_64 rfl (lv_at hl 0 rfl) ?_
        have hP9 := hP.sub (ws' := [(h0, .inr (0, [.int a0, .int a1, .int (gx_X0_move_2 a2 p0 (fx_X0_statusOfAct a0 a1 a2 a4 a5 a6 p0 p1)), .int a3, .int (gx_X0_move_4 a4 p0 (fx_X0_statusOfAct a0 a1 a2 a4 a5 a6 p0 p1)), .int a5, .int 0, .int (gx_X0_remember_7 (fx_X0_statusOfAct a0 a1 a2 a4 a5 a6 p0 p1)), .int (gx_X0_remember_8 p0), .int a9, .int (gx_X0_remember_10 a10 p0 (fx_X0_statusOfAct a0 a1 a2 a4 a5 a6 p0 p1)), .int (gx_X0_remember_11 a11 (fx_X0_statusOfAct a0 a1 a2 a4 a5 a6 p0 p1))]))]) [0] rfl
        have hD9 := hD.sub (ws' := [(h0, .inr (0, [.int a0, .int a1, .int (gx_X0_move_2 a2 p0 (fx_X0_statusOfAct a0 a1 a2 a4 a5 a6 p0 p1)), .int a3, .int (gx_X0_move_4 a4 p0 (fx_X0_statusOfAct a0 a1 a2 a4 a5 a6 p0 p1)), .int a5, .int 0, .int (gx_X0_remember_7 (fx_X0_statusOfAct a0 a1 a2 a4 a5 a6 p0 p1)), .int (gx_X0_remember_8 p0), .int a9, .int (gx_X0_remember_10 a10 p0 (fx_X0_statusOfAct a0 a1 a2 a4 a5 a6 p0 p1)), .int (gx_X0_remember_11 a11 (fx_X0_statusOfAct a0 a1 a2 a4 a5 a6 p0 p1))]))]) [0] (by decide) rfl
        have hK9 := hK.sub (tys' := []) [] rfl
        have eg_2 : gx_X0_act_2 a0 a1 a2 a4 a5 a6 p0 p1 = gx_X0_move_2 a2 p0 (fx_X0_statusOfAct a0 a1 a2 a4 a5 a6 p0 p1) := by unfold gx_X0_act_2; rw [if_neg c_1, if_pos c_2]
        have eg_4 : gx_X0_act_4 a0 a1 a2 a4 a5 a6 p0 p1 = gx_X0_move_4 a4 p0 (fx_X0_statusOfAct a0 a1 a2 a4 a5 a6 p0 p1) := by unfold gx_X0_act_4; rw [if_neg c_1, if_pos c_2]
        have eg_5 : gx_X0_act_5 a5 p0 = a5 := by unfold gx_X0_act_5; rw [if_neg c_1, if_pos c_2, if_neg c_4]
        have eg_6 : gx_X0_act_6 a0 a1 a2 a4 a5 a6 p0 p1 = 0 := by unfold gx_X0_act_6; rw [if_neg c_1, if_pos c_2, if_neg c_7, if_pos c_10]
        have eg_7 : gx_X0_act_7 a0 a1 a2 a4 a5 a6 a7 p0 p1 = gx_X0_remember_7 (fx_X0_statusOfAct a0 a1 a2 a4 a5 a6 p0 p1) := by unfold gx_X0_act_7; rw [if_neg c_1, if_pos c_2]
        have eg_8 : gx_X0_act_8 a8 p0 = gx_X0_remember_8 p0 := by unfold gx_X0_act_8; rw [if_neg c_1, if_pos c_2]
        have eg_10 : gx_X0_act_10 a0 a1 a2 a4 a5 a6 a10 p0 p1 = gx_X0_remember_10 a10 p0 (fx_X0_statusOfAct a0 a1 a2 a4 a5 a6 p0 p1) := by unfold gx_X0_act_10; rw [if_neg c_1, if_pos c_2]
        have eg_11 : gx_X0_act_11 a0 a1 a2 a4 a5 a6 a11 p0 p1 = gx_X0_remember_11 a11 (fx_X0_statusOfAct a0 a1 a2 a4 a5 a6 p0 p1) := by unfold gx_X0_act_11; rw [if_neg c_1, if_pos c_2]
        have ef : fx_X0_act a0 a1 a2 a4 a5 a6 p0 p1 = fx_X0_statusOfAct a0 a1 a2 a4 a5 a6 p0 p1 := by unfold fx_X0_act; rw [if_neg c_1, if_pos c_2]
        exact W.iret (v := fx_X0_statusOfAct a0 a1 a2 a4 a5 a6 p0 p1) hx hb hr (fun t ht hW => ⟨⟨(fx_X0_statusOfAct a0 a1 a2 a4 a5 a6 p0 p1), [(h0, .inr (0, [.int a0, .int a1, .int (gx_X0_move_2 a2 p0 (fx_X0_statusOfAct a0 a1 a2 a4 a5 a6 p0 p1)), .int a3, .int (gx_X0_move_4 a4 p0 (fx_X0_statusOfAct a0 a1 a2 a4 a5 a6 p0 p1)), .int a5, .int 0, .int (gx_X0_remember_7 (fx_X0_statusOfAct a0 a1 a2 a4 a5 a6 p0 p1)), .int (gx_X0_remember_8 p0), .int a9, .int (gx_X0_remember_10 a10 p0 (fx_X0_statusOfAct a0 a1 a2 a4 a5 a6 p0 p1)), .int (gx_X0_remember_11 a11 (fx_X0_statusOfAct a0 a1 a2 a4 a5 a6 p0 p1))]))], rfl, ⟨ef.symm, by rw [eg_2, eg_4, eg_5, eg_6, eg_7, eg_8, eg_10, eg_11]⟩, by rw [ht]; exact hP9, va_K.moved hW.alike hK9, hD9⟩, hS.F ht⟩) hS.2.2 dX0_act_65
      refine lv_iconst (v := 1) hx hb dX0_act_50 (by decide) ?_
      refine lv_goto (tgt := 55) hx hb dX0_act_51 (by decide) ?_
      refine va_put (D := (dC, dI)) (ci := 0) (v := .int 1) (ty := .boolean) (C := RX0) (T := TX0) (N := 12) hx hb hts (fun _ h => List.mem_cons_of_mem _ (List.mem_append_right _ h)) tyX0 tyX0_ok nmX0 hown hK hP hD hS 0 rfl rfl 6 (by decide) (hts (.fieldLink RX0 26 "FileStatus" "permit" "Z") (by decide +kernel)) (fun _ h9 => h9) rfl (by decide +kernel) rfl rfl (Nat.le_of_ble_eq_true rfl) dX0_act_55 (fun H locs hP hD hS => ?_)
      have hP : va_P (dC, dI) vwCl [(h0, .inr (0, [.int a0, .int a1, .int (gx_X0_move_2 a2 p0 (fx_X0_statusOfAct a0 a1 a2 a4 a5 a6 p0 p1)), .int a3, .int (gx_X0_move_4 a4 p0 (fx_X0_statusOfAct a0 a1 a2 a4 a5 a6 p0 p1)), .int a5, .int 1, .int a7, .int a8, .int a9, .int a10, .int a11]))] H := hP
      have hD : va_D A [(h0, .inr (0, [.int a0, .int a1, .int (gx_X0_move_2 a2 p0 (fx_X0_statusOfAct a0 a1 a2 a4 a5 a6 p0 p1)), .int a3, .int (gx_X0_move_4 a4 p0 (fx_X0_statusOfAct a0 a1 a2 a4 a5 a6 p0 p1)), .int a5, .int 1, .int a7, .int a8, .int a9, .int a10, .int a11]))] := hD
      refine lv_aload_n hx hb dX0_act_58 rfl (lv_at hl 1 rfl) ?_
      refine lv_iload_n hx hb dX0_act_59 rfl (lv_at hl 2 rfl) ?_
      refine lv_iload_n hx hb dX0_act_60 rfl (lv_at hl 0 rfl) ?_
      have hPc := hP.sub (ws' := [(h0, .inr (0, [.int a0, .int a1, .int (gx_X0_move_2 a2 p0 (fx_X0_statusOfAct a0 a1 a2 a4 a5 a6 p0 p1)), .int a3, .int (gx_X0_move_4 a4 p0 (fx_X0_statusOfAct a0 a1 a2 a4 a5 a6 p0 p1)), .int a5, .int 1, .int a7, .int a8, .int a9, .int a10, .int a11]))]) [0] rfl
      have hDc := hD.sub (ws' := [(h0, .inr (0, [.int a0, .int a1, .int (gx_X0_move_2 a2 p0 (fx_X0_statusOfAct a0 a1 a2 a4 a5 a6 p0 p1)), .int a3, .int (gx_X0_move_4 a4 p0 (fx_X0_statusOfAct a0 a1 a2 a4 a5 a6 p0 p1)), .int a5, .int 1, .int a7, .int a8, .int a9, .int a10, .int a11]))]) [0] (by decide) rfl
      have hKc := hK.sub (tys' := []) [] rfl
      have hFc := va_free (wc := [(h0, .inr (0, [.int a0, .int a1, .int (gx_X0_move_2 a2 p0 (fx_X0_statusOfAct a0 a1 a2 a4 a5 a6 p0 p1)), .int a3, .int (gx_X0_move_4 a4 p0 (fx_X0_statusOfAct a0 a1 a2 a4 a5 a6 p0 p1)), .int a5, .int 1, .int a7, .int a8, .int a9, .int a10, .int a11]))]) hD hS hA [0] rfl
      refine va_callv (va_runV (As := [.int p0, .int (fx_X0_statusOfAct a0 a1 a2 a4 a5 a6 p0 p1)]) (rest := []) ⟨hx, hb, hml, hown, hts⟩ (ct_X0_remember l dC dI h0 H.size a0 a1 (gx_X0_move_2 a2 p0 (fx_X0_statusOfAct a0 a1 a2 a4 a5 a6 p0 p1)) a3 (gx_X0_move_4 a4 p0 (fx_X0_statusOfAct a0 a1 a2 a4 a5 a6 p0 p1)) a5 1 a7 a8 a9 a10 a11 p0 (fx_X0_statusOfAct a0 a1 a2 a4 a5 a6 p0 p1)) (cwV 2 hts gX0_act_X0_remember rfl rfl rfl (by decide +kernel) ⟨Nat.le_of_ble_eq_true rfl, Nat.le_of_ble_eq_true rfl⟩) ⟨fun a U g mk q => by obtain ⟨q0, q1, qP, qK, qD⟩ := q; exact ⟨q0, q1, qP, va_K.moved (u := U) (U := U.calling g mk a) (Vm.Alike.refl U.vm) qK, qD⟩, va_recv hKc hPc (ci := 0) (q0 := 0) rfl rfl, fun U hU hW => ⟨rfl, by rw [hU], by rw [hU]; exact hPc, va_K.moved hW.alike hKc, hDc.weaken (fun _ _ _ _ => trivial)⟩⟩ rfl rfl hl.1 rfl (lv_room (Nat.le_of_ble_eq_true rfl)) dX0_act_61 ⟨(Nat.zero_le _), (Nat.zero_le _)⟩) hS (fun q _ h => hFc q h) hFc (fun u t H1 locs ht hvm hw hB hz1 hk1 hS => ?_)
      subst hw
      obtain ⟨hP1, hK1, hD1⟩ := hB
      rw [ht] at hP1
      have hK1 := va_K.moved hvm.symm hK1
      obtain ⟨hP, hD⟩ := va_join (wr := []) (w1 := [(h0, .inr (0, [.int a0, .int a1, .int (gx_X0_move_2 a2 p0 (fx_X0_statusOfAct a0 a1 a2 a4 a5 a6 p0 p1)), .int a3, .int (gx_X0_move_4 a4 p0 (fx_X0_statusOfAct a0 a1 a2 a4 a5 a6 p0 p1)), .int a5, .int 1, .int (gx_X0_remember_7 (fx_X0_statusOfAct a0 a1 a2 a4 a5 a6 p0 p1)), .int (gx_X0_remember_8 p0), .int a9, .int (gx_X0_remember_10 a10 p0 (fx_X0_statusOfAct a0 a1 a2 a4 a5 a6 p0 p1)), .int (gx_X0_remember_11 a11 (fx_X0_statusOfAct a0 a1 a2 a4 a5 a6 p0 p1))]))]) hP hD [0] [] rfl rfl (by decide) (by decide) hk1 hFc hP1 hD1
      have hK := (hK.sub (tys' := []) [] rfl).app hK1
      generalize H1 = H at hP hS ⊢
      have hP : va_P (dC, dI) vwCl [(h0, .inr (0, [.int a0, .int a1, .int (gx_X0_move_2 a2 p0 (fx_X0_statusOfAct a0 a1 a2 a4 a5 a6 p0 p1)), .int a3, .int (gx_X0_move_4 a4 p0 (fx_X0_statusOfAct a0 a1 a2 a4 a5 a6 p0 p1)), .int a5, .int 1, .int (gx_X0_remember_7 (fx_X0_statusOfAct a0 a1 a2 a4 a5 a6 p0 p1)), .int (gx_X0_remember_8 p0), .int a9, .int (gx_X0_remember_10 a10 p0 (fx_X0_statusOfAct a0 a1 a2 a4 a5 a6 p0 p1)), .int (gx_X0_remember_11 a11 (fx_X0_statusOfAct a0 a1 a2 a4 a5 a6 p0 p1))]))] H := hP
      have hD : va_D A [(h0, .inr (0, [.int a0, .int a1, .int (gx_X0_move_2 a2 p0 (fx_X0_statusOfAct a0 a1 a2 a4 a5 a6 p0 p1)), .int a3, .int (gx_X0_move_4 a4 p0 (fx_X0_statusOfAct a0 a1 a2 a4 a5 a6 p0 p1)), .int a5, .int 1, .int (gx_X0_remember_7 (fx_X0_statusOfAct a0 a1 a2 a4 a5 a6 p0 p1)), .int (gx_X0_remember_8 p0), .int a9, .int (gx_X0_remember_10 a10 p0 (fx_X0_statusOfAct a0 a1 a2 a4 a5 a6 p0 p1)), .int (gx_X0_remember_11 a11 (fx_X0_statusOfAct a0 a1 a2 a4 a5 a6 p0 p1))]))] := hD
      have hK : va_K (dC, dI) vwCl [] s := hK
      refine lv_iload_n hx hb dX0_act_64 rfl (lv_at hl 0 rfl) ?_
      have hP9 := hP.sub (ws' := [(h0, .inr (0, [.int a0, .int a1, .int (gx_X0_move_2 a2 p0 (fx_X0_statusOfAct a0 a1 a2 a4 a5 a6 p0 p1)), .int a3, .int (gx_X0_move_4 a4 p0 (fx_X0_statusOfAct a0 a1 a2 a4 a5 a6 p0 p1)), .int a5, .int 1, .int (gx_X0_remember_7 (fx_X0_statusOfAct a0 a1 a2 a4 a5 a6 p0 p1)), .int (gx_X0_remember_8 p0), .int a9, .int (gx_X0_remember_10 a10 p0 (fx_X0_statusOfAct a0 a1 a2 a4 a5 a6 p0 p1)), .int (gx_X0_remember_11 a11 (fx_X0_statusOfAct a0 a1 a2 a4 a5 a6 p0 p1))]))]) [0] rfl
      have hD9 := hD.sub (ws' := [(h0, .inr (0, [.int a0, .int a1, .int (gx_X0_move_2 a2 p0 (fx_X0_statusOfAct a0 a1 a2 a4 a5 a6 p0 p1)), .int a3, .int (gx_X0_move_4 a4 p0 (fx_X0_statusOfAct a0 a1 a2 a4 a5 a6 p0 p1)), .int a5, .int 1, .int (gx_X0_remember_7 (fx_X0_statusOfAct a0 a1 a2 a4 a5 a6 p0 p1)), .int (gx_X0_remember_8 p0), .int a9, .int (gx_X0_remember_10 a10 p0 (fx_X0_statusOfAct a0 a1 a2 a4 a5 a6 p0 p1)), .int (gx_X0_remember_11 a11 (fx_X0_statusOfAct a0 a1 a2 a4 a5 a6 p0 p1))]))]) [0] (by decide) rfl
      have hK9 := hK.sub (tys' := []) [] rfl
      have eg_2 : gx_X0_act_2 a0 a1 a2 a4 a5 a6 p0 p1 = gx_X0_move_2 a2 p0 (fx_X0_statusOfAct a0 a1 a2 a4 a5 a6 p0 p1) := by unfold gx_X0_act_2; rw [if_neg c_1, if_pos c_2]
      have eg_4 : gx_X0_act_4 a0 a1 a2 a4 a5 a6 p0 p1 = gx_X0_move_4 a4 p0 (fx_X0_statusOfAct a0 a1 a2 a4 a5 a6 p0 p1) := by unfold gx_X0_act_4; rw [if_neg c_1, if_pos c_2]
      have eg_5 : gx_X0_act_5 a5 p0 = a5 := by unfold gx_X0_act_5; rw [if_neg c_1, if_pos c_2, if_neg c_4]
      have eg_6 : gx_X0_act_6 a0 a1 a2 a4 a5 a6 p0 p1 = 1 := by unfold gx_X0_act_6; rw [if_neg c_1, if_pos c_2, if_neg c_7, if_neg c_10]
      have eg_7 : gx_X0_act_7 a0 a1 a2 a4 a5 a6 a7 p0 p1 = gx_X0_remember_7 (fx_X0_statusOfAct a0 a1 a2 a4 a5 a6 p0 p1) := by unfold gx_X0_act_7; rw [if_neg c_1, if_pos c_2]
      have eg_8 : gx_X0_act_8 a8 p0 = gx_X0_remember_8 p0 := by unfold gx_X0_act_8; rw [if_neg c_1, if_pos c_2]
      have eg_10 : gx_X0_act_10 a0 a1 a2 a4 a5 a6 a10 p0 p1 = gx_X0_remember_10 a10 p0 (fx_X0_statusOfAct a0 a1 a2 a4 a5 a6 p0 p1) := by unfold gx_X0_act_10; rw [if_neg c_1, if_pos c_2]
      have eg_11 : gx_X0_act_11 a0 a1 a2 a4 a5 a6 a11 p0 p1 = gx_X0_remember_11 a11 (fx_X0_statusOfAct a0 a1 a2 a4 a5 a6 p0 p1) := by unfold gx_X0_act_11; rw [if_neg c_1, if_pos c_2]
      have ef : fx_X0_act a0 a1 a2 a4 a5 a6 p0 p1 = fx_X0_statusOfAct a0 a1 a2 a4 a5 a6 p0 p1 := by unfold fx_X0_act; rw [if_neg c_1, if_pos c_2]
      exact W.iret (v := fx_X0_statusOfAct a0 a1 a2 a4 a5 a6 p0 p1) hx hb hr (fun t ht hW => ⟨⟨(fx_X0_statusOfAct a0 a1 a2 a4 a5 a6 p0 p1), [(h0, .inr (0, [.int a0, .int a1, .int (gx_X0_move_2 a2 p0 (fx_X0_statusOfAct a0 a1 a2 a4 a5 a6 p0 p1)), .int a3, .int (gx_X0_move_4 a4 p0 (fx_X0_statusOfAct a0 a1 a2 a4 a5 a6 p0 p1)), .int a5, .int 1, .int (gx_X0_remember_7 (fx_X0_statusOfAct a0 a1 a2 a4 a5 a6 p0 p1)), .int (gx_X0_remember_8 p0), .int a9, .int (gx_X0_remember_10 a10 p0 (fx_X0_statusOfAct a0 a1 a2 a4 a5 a6 p0 p1)), .int (gx_X0_remember_11 a11 (fx_X0_statusOfAct a0 a1 a2 a4 a5 a6 p0 p1))]))], rfl, ⟨ef.symm, by rw [eg_2, eg_4, eg_5, eg_6, eg_7, eg_8, eg_10, eg_11]⟩, by rw [ht]; exact hP9, va_K.moved hW.alike hK9, hD9⟩, hS.F ht⟩) hS.2.2 dX0_act_65
    refine lv_aload_n hx hb dX0_act_24 rfl (lv_at hl 1 rfl) ?_
    refine lv_iconst (v := 0) hx hb dX0_act_25 (by decide) ?_
    refine va_put (D := (dC, dI)) (ci := 0) (v := .int 0) (ty := .boolean) (C := RX0) (T := TX0) (N := 12) hx hb hts (fun _ h => List.mem_cons_of_mem _ (List.mem_append_right _ h)) tyX0 tyX0_ok nmX0 hown hK hP hD hS 0 rfl rfl 5 (by decide) (hts (.fieldLink RX0 23 "FileStatus" "endIsNext" "Z") (by decide +kernel)) (fun _ h9 => h9) rfl (by decide +kernel) rfl rfl (Nat.le_of_ble_eq_true rfl) dX0_act_26 (fun H locs hP hD hS => ?_)
    have hP : va_P (dC, dI) vwCl [(h0, .inr (0, [.int a0, .int a1, .int a2, .int a3, .int a4, .int 0, .int a6, .int a7, .int a8, .int a9, .int a10, .int a11]))] H := hP
    have hD : va_D A [(h0, .inr (0, [.int a0, .int a1, .int a2, .int a3, .int a4, .int 0, .int a6, .int a7, .int a8, .int a9, .int a10, .int a11]))] := hD
    refine lv_aload_n hx hb dX0_act_29 rfl (lv_at hl 1 rfl) ?_
    refine lv_iload_n hx hb dX0_act_30 rfl (lv_at hl 2 rfl) ?_
    refine lv_iload_n hx hb dX0_act_31 rfl (lv_at hl 0 rfl) ?_
    have hPc := hP.sub (ws' := [(h0, .inr (0, [.int a0, .int a1, .int a2, .int a3, .int a4, .int 0, .int a6, .int a7, .int a8, .int a9, .int a10, .int a11]))]) [0] rfl
    have hDc := hD.sub (ws' := [(h0, .inr (0, [.int a0, .int a1, .int a2, .int a3, .int a4, .int 0, .int a6, .int a7, .int a8, .int a9, .int a10, .int a11]))]) [0] (by decide) rfl
    have hKc := hK.sub (tys' := []) [] rfl
    have hFc := va_free (wc := [(h0, .inr (0, [.int a0, .int a1, .int a2, .int a3, .int a4, .int 0, .int a6, .int a7, .int a8, .int a9, .int a10, .int a11]))]) hD hS hA [0] rfl
    refine va_callv (va_runV (As := [.int p0, .int (fx_X0_statusOfAct a0 a1 a2 a4 a5 a6 p0 p1)]) (rest := []) ⟨hx, hb, hml, hown, hts⟩ (ct_X0_move l dC dI h0 H.size a0 a1 a2 a3 a4 0 a6 a7 a8 a9 a10 a11 p0 (fx_X0_statusOfAct a0 a1 a2 a4 a5 a6 p0 p1)) (cwV 2 hts gX0_act_X0_move rfl rfl rfl (by decide +kernel) ⟨Nat.le_of_ble_eq_true rfl, Nat.le_of_ble_eq_true rfl⟩) ⟨fun a U g mk q => by obtain ⟨q0, q1, qP, qK, qD⟩ := q; exact ⟨q0, q1, qP, va_K.moved (u := U) (U := U.calling g mk a) (Vm.Alike.refl U.vm) qK, qD⟩, va_recv hKc hPc (ci := 0) (q0 := 0) rfl rfl, fun U hU hW => ⟨rfl, by rw [hU], by rw [hU]; exact hPc, va_K.moved hW.alike hKc, hDc.weaken (fun _ _ _ _ => trivial)⟩⟩ rfl rfl hl.1 rfl (lv_room (Nat.le_of_ble_eq_true rfl)) dX0_act_32 ⟨(Nat.zero_le _), (Nat.zero_le _)⟩) hS (fun q _ h => hFc q h) hFc (fun u t H1 locs ht hvm hw hB hz1 hk1 hS => ?_)
    subst hw
    obtain ⟨hP1, hK1, hD1⟩ := hB
    rw [ht] at hP1
    have hK1 := va_K.moved hvm.symm hK1
    obtain ⟨hP, hD⟩ := va_join (wr := []) (w1 := [(h0, .inr (0, [.int a0, .int a1, .int (gx_X0_move_2 a2 p0 (fx_X0_statusOfAct a0 a1 a2 a4 a5 a6 p0 p1)), .int a3, .int (gx_X0_move_4 a4 p0 (fx_X0_statusOfAct a0 a1 a2 a4 a5 a6 p0 p1)), .int 0, .int a6, .int a7, .int a8, .int a9, .int a10, .int a11]))]) hP hD [0] [] rfl rfl (by decide) (by decide) hk1 hFc hP1 hD1
    have hK := (hK.sub (tys' := []) [] rfl).app hK1
    generalize H1 = H at hP hS ⊢
    have hP : va_P (dC, dI) vwCl [(h0, .inr (0, [.int a0, .int a1, .int (gx_X0_move_2 a2 p0 (fx_X0_statusOfAct a0 a1 a2 a4 a5 a6 p0 p1)), .int a3, .int (gx_X0_move_4 a4 p0 (fx_X0_statusOfAct a0 a1 a2 a4 a5 a6 p0 p1)), .int 0, .int a6, .int a7, .int a8, .int a9, .int a10, .int a11]))] H := hP
    have hD : va_D A [(h0, .inr (0, [.int a0, .int a1, .int (gx_X0_move_2 a2 p0 (fx_X0_statusOfAct a0 a1 a2 a4 a5 a6 p0 p1)), .int a3, .int (gx_X0_move_4 a4 p0 (fx_X0_statusOfAct a0 a1 a2 a4 a5 a6 p0 p1)), .int 0, .int a6, .int a7, .int a8, .int a9, .int a10, .int a11]))] := hD
    have hK : va_K (dC, dI) vwCl [] s := hK
    refine lv_aload_n hx hb dX0_act_35 rfl (lv_at hl 1 rfl) ?_
    refine lv_iload_n hx hb dX0_act_36 rfl (lv_at hl 2 rfl) ?_
    have hPc := hP.sub (ws' := []) [] rfl
    have hDc := hD.sub (ws' := []) [] (by decide) rfl
    have hKc := hK.sub (tys' := []) [] rfl
    have hFc := va_free (wc := []) hD hS hA [] rfl
    refine va_calli (va_runS (As := [.int p0]) (rest := [.ref h0]) ⟨hx, hb, hml, hown, hts⟩ (ct_X0_isRead l dC dI H.size p0) (va_cwS 1 hts gX0_act_X0_isRead rfl rfl rfl (by decide +kernel) ⟨Nat.le_of_ble_eq_true rfl, Nat.le_of_ble_eq_true rfl⟩) ⟨fun a U g mk q => by obtain ⟨q0, q1, qP, qK, qD⟩ := q; exact ⟨q0, q1, qP, va_K.moved (u := U) (U := U.calling g mk a) (Vm.Alike.refl U.vm) qK, qD⟩, fun U hU hW => ⟨rfl, by rw [hU], by rw [hU]; exact hPc, va_K.moved hW.alike hKc, hDc.weaken (fun _ _ _ _ => trivial)⟩⟩ rfl rfl hl.1 rfl (lv_room (Nat.le_of_ble_eq_true rfl)) dX0_act_37 ⟨(Nat.zero_le _), (Nat.zero_le _)⟩) hS (fun q _ h => hFc q h) hFc (fun r_14 u t H1 locs ht hvm hw hB hz1 hk1 hS => ?_)
    obtain ⟨er, hu⟩ := hw
    subst hu
    subst er
    obtain ⟨hP1, hK1, hD1⟩ := hB
    rw [ht] at hP1
    have hK1 := va_K.moved hvm.symm hK1
    obtain ⟨hP, hD⟩ := va_join (wr := [(h0, .inr (0, [.int a0, .int a1, .int (gx_X0_move_2 a2 p0 (fx_X0_statusOfAct a0 a1 a2 a4 a5 a6 p0 p1)), .int a3, .int (gx_X0_move_4 a4 p0 (fx_X0_statusOfAct a0 a1 a2 a4 a5 a6 p0 p1)), .int 0, .int a6, .int a7, .int a8, .int a9, .int a10, .int a11]))]) (w1 := []) hP hD [] [0] rfl rfl (by decide) (by decide) hk1 hFc hP1 hD1
    have hK := (hK.sub (tys' := []) [] rfl).app hK1
    generalize H1 = H at hP hS ⊢
    have hP : va_P (dC, dI) vwCl [(h0, .inr (0, [.int a0, .int a1, .int (gx_X0_move_2 a2 p0 (fx_X0_statusOfAct a0 a1 a2 a4 a5 a6 p0 p1)), .int a3, .int (gx_X0_move_4 a4 p0 (fx_X0_statusOfAct a0 a1 a2 a4 a5 a6 p0 p1)), .int 0, .int a6, .int a7, .int a8, .int a9, .int a10, .int a11]))] H := hP
    have hD : va_D A [(h0, .inr (0, [.int a0, .int a1, .int (gx_X0_move_2 a2 p0 (fx_X0_statusOfAct a0 a1 a2 a4 a5 a6 p0 p1)), .int a3, .int (gx_X0_move_4 a4 p0 (fx_X0_statusOfAct a0 a1 a2 a4 a5 a6 p0 p1)), .int 0, .int a6, .int a7, .int a8, .int a9, .int a10, .int a11]))] := hD
    have hK : va_K (dC, dI) vwCl [] s := hK
    refine lv_if_eq (tgt := 54) hx hb dX0_act_40 (by decide) (fun c_15 => ?_) (fun c_15 => ?_)
    · refine lv_iconst (v := 0) hx hb dX0_act_54 (by decide) ?_
      refine va_put (D := (dC, dI)) (ci := 0) (v := .int 0) (ty := .boolean) (C := RX0) (T := TX0) (N := 12) hx hb hts (fun _ h => List.mem_cons_of_mem _ (List.mem_append_right _ h)) tyX0 tyX0_ok nmX0 hown hK hP hD hS 0 rfl rfl 6 (by decide) (hts (.fieldLink RX0 26 "FileStatus" "permit" "Z") (by decide +kernel)) (fun _ h9 => h9) rfl (by decide +kernel) rfl rfl (Nat.le_of_ble_eq_true rfl) dX0_act_55 (fun H locs hP hD hS => ?_)
      have hP : va_P (dC, dI) vwCl [(h0, .inr (0, [.int a0, .int a1, .int (gx_X0_move_2 a2 p0 (fx_X0_statusOfAct a0 a1 a2 a4 a5 a6 p0 p1)), .int a3, .int (gx_X0_move_4 a4 p0 (fx_X0_statusOfAct a0 a1 a2 a4 a5 a6 p0 p1)), .int 0, .int 0, .int a7, .int a8, .int a9, .int a10, .int a11]))] H := hP
      have hD : va_D A [(h0, .inr (0, [.int a0, .int a1, .int (gx_X0_move_2 a2 p0 (fx_X0_statusOfAct a0 a1 a2 a4 a5 a6 p0 p1)), .int a3, .int (gx_X0_move_4 a4 p0 (fx_X0_statusOfAct a0 a1 a2 a4 a5 a6 p0 p1)), .int 0, .int 0, .int a7, .int a8, .int a9, .int a10, .int a11]))] := hD
      refine lv_aload_n hx hb dX0_act_58 rfl (lv_at hl 1 rfl) ?_
      refine lv_iload_n hx hb dX0_act_59 rfl (lv_at hl 2 rfl) ?_
      refine lv_iload_n hx hb dX0_act_60 rfl (lv_at hl 0 rfl) ?_
      have hPc := hP.sub (ws' := [(h0, .inr (0, [.int a0, .int a1, .int (gx_X0_move_2 a2 p0 (fx_X0_statusOfAct a0 a1 a2 a4 a5 a6 p0 p1)), .int a3, .int (gx_X0_move_4 a4 p0 (fx_X0_statusOfAct a0 a1 a2 a4 a5 a6 p0 p1)), .int 0, .int 0, .int a7, .int a8, .int a9, .int a10, .int a11]))]) [0] rfl
      have hDc := hD.sub (ws' := [(h0, .inr (0, [.int a0, .int a1, .int (gx_X0_move_2 a2 p0 (fx_X0_statusOfAct a0 a1 a2 a4 a5 a6 p0 p1)), .int a3, .int (gx_X0_move_4 a4 p0 (fx_X0_statusOfAct a0 a1 a2 a4 a5 a6 p0 p1)), .int 0, .int 0, .int a7, .int a8, .int a9, .int a10, .int a11]))]) [0] (by decide) rfl
      have hKc := hK.sub (tys' := []) [] rfl
      have hFc := va_free (wc := [(h0, .inr (0, [.int a0, .int a1, .int (gx_X0_move_2 a2 p0 (fx_X0_statusOfAct a0 a1 a2 a4 a5 a6 p0 p1)), .int a3, .int (gx_X0_move_4 a4 p0 (fx_X0_statusOfAct a0 a1 a2 a4 a5 a6 p0 p1)), .int 0, .int 0, .int a7, .int a8, .int a9, .int a10, .int a11]))]) hD hS hA [0] rfl
      refine va_callv (va_runV (As := [.int p0, .int (fx_X0_statusOfAct a0 a1 a2 a4 a5 a6 p0 p1)]) (rest := []) ⟨hx, hb, hml, hown, hts⟩ (ct_X0_remember l dC dI h0 H.size a0 a1 (gx_X0_move_2 a2 p0 (fx_X0_statusOfAct a0 a1 a2 a4 a5 a6 p0 p1)) a3 (gx_X0_move_4 a4 p0 (fx_X0_statusOfAct a0 a1 a2 a4 a5 a6 p0 p1)) 0 0 a7 a8 a9 a10 a11 p0 (fx_X0_statusOfAct a0 a1 a2 a4 a5 a6 p0 p1)) (cwV 2 hts gX0_act_X0_remember rfl rfl rfl (by decide +kernel) ⟨Nat.le_of_ble_eq_true rfl, Nat.le_of_ble_eq_true rfl⟩) ⟨fun a U g mk q => by obtain ⟨q0, q1, qP, qK, qD⟩ := q; exact ⟨q0, q1, qP, va_K.moved (u := U) (U := U.calling g mk a) (Vm.Alike.refl U.vm) qK, qD⟩, va_recv hKc hPc (ci := 0) (q0 := 0) rfl rfl, fun U hU hW => ⟨rfl, by rw [hU], by rw [hU]; exact hPc, va_K.moved hW.alike hKc, hDc.weaken (fun _ _ _ _ => trivial)⟩⟩ rfl rfl hl.1 rfl (lv_room (Nat.le_of_ble_eq_true rfl)) dX0_act_61 ⟨(Nat.zero_le _), (Nat.zero_le _)⟩) hS (fun q _ h => hFc q h) hFc (fun u t H1 locs ht hvm hw hB hz1 hk1 hS => ?_)
      subst hw
      obtain ⟨hP1, hK1, hD1⟩ := hB
      rw [ht] at hP1
      have hK1 := va_K.moved hvm.symm hK1
      obtain ⟨hP, hD⟩ := va_join (wr := []) (w1 := [(h0, .inr (0, [.int a0, .int a1, .int (gx_X0_move_2 a2 p0 (fx_X0_statusOfAct a0 a1 a2 a4 a5 a6 p0 p1)), .int a3, .int (gx_X0_move_4 a4 p0 (fx_X0_statusOfAct a0 a1 a2 a4 a5 a6 p0 p1)), .int 0, .int 0, .int (gx_X0_remember_7 (fx_X0_statusOfAct a0 a1 a2 a4 a5 a6 p0 p1)), .int (gx_X0_remember_8 p0), .int a9, .int (gx_X0_remember_10 a10 p0 (fx_X0_statusOfAct a0 a1 a2 a4 a5 a6 p0 p1)), .int (gx_X0_remember_11 a11 (fx_X0_statusOfAct a0 a1 a2 a4 a5 a6 p0 p1))]))]) hP hD [0] [] rfl rfl (by decide) (by decide) hk1 hFc hP1 hD1
      have hK := (hK.sub (tys' := []) [] rfl).app hK1
      generalize H1 = H at hP hS ⊢
      have hP : va_P (dC, dI) vwCl [(h0, .inr (0, [.int a0, .int a1, .int (gx_X0_move_2 a2 p0 (fx_X0_statusOfAct a0 a1 a2 a4 a5 a6 p0 p1)), .int a3, .int (gx_X0_move_4 a4 p0 (fx_X0_statusOfAct a0 a1 a2 a4 a5 a6 p0 p1)), .int 0, .int 0, .int (gx_X0_remember_7 (fx_X0_statusOfAct a0 a1 a2 a4 a5 a6 p0 p1)), .int (gx_X0_remember_8 p0), .int a9, .int (gx_X0_remember_10 a10 p0 (fx_X0_statusOfAct a0 a1 a2 a4 a5 a6 p0 p1)), .int (gx_X0_remember_11 a11 (fx_X0_statusOfAct a0 a1 a2 a4 a5 a6 p0 p1))]))] H := hP
      have hD : va_D A [(h0, .inr (0, [.int a0, .int a1, .int (gx_X0_move_2 a2 p0 (fx_X0_statusOfAct a0 a1 a2 a4 a5 a6 p0 p1)), .int a3, .int (gx_X0_move_4 a4 p0 (fx_X0_statusOfAct a0 a1 a2 a4 a5 a6 p0 p1)), .int 0, .int 0, .int (gx_X0_remember_7 (fx_X0_statusOfAct a0 a1 a2 a4 a5 a6 p0 p1)), .int (gx_X0_remember_8 p0), .int a9, .int (gx_X0_remember_10 a10 p0 (fx_X0_statusOfAct a0 a1 a2 a4 a5 a6 p0 p1)), .int (gx_X0_remember_11 a11 (fx_X0_statusOfAct a0 a1 a2 a4 a5 a6 p0 p1))]))] := hD
      have hK : va_K (dC, dI) vwCl [] s := hK
      refine lv_iload_n hx hb dX0_act_64 rfl (lv_at hl 0 rfl) ?_
      have hP9 := hP.sub (ws' := [(h0, .inr (0, [.int a0, .int a1, .int (gx_X0_move_2 a2 p0 (fx_X0_statusOfAct a0 a1 a2 a4 a5 a6 p0 p1)), .int a3, .int (gx_X0_move_4 a4 p0 (fx_X0_statusOfAct a0 a1 a2 a4 a5 a6 p0 p1)), .int 0, .int 0, .int (gx_X0_remember_7 (fx_X0_statusOfAct a0 a1 a2 a4 a5 a6 p0 p1)), .int (gx_X0_remember_8 p0), .int a9, .int (gx_X0_remember_10 a10 p0 (fx_X0_statusOfAct a0 a1 a2 a4 a5 a6 p0 p1)), .int (gx_X0_remember_11 a11 (fx_X0_statusOfAct a0 a1 a2 a4 a5 a6 p0 p1))]))]) [0] rfl
      have hD9 := hD.sub (ws' := [(h0, .inr (0, [.int a0, .int a1, .int (gx_X0_move_2 a2 p0 (fx_X0_statusOfAct a0 a1 a2 a4 a5 a6 p0 p1)), .int a3, .int (gx_X0_move_4 a4 p0 (fx_X0_statusOfAct a0 a1 a2 a4 a5 a6 p0 p1)), .int 0, .int 0, .int (gx_X0_remember_7 (fx_X0_statusOfAct a0 a1 a2 a4 a5 a6 p0 p1)), .int (gx_X0_remember_8 p0), .int a9, .int (gx_X0_remember_10 a10 p0 (fx_X0_statusOfAct a0 a1 a2 a4 a5 a6 p0 p1)), .int (gx_X0_remember_11 a11 (fx_X0_statusOfAct a0 a1 a2 a4 a5 a6 p0 p1))]))]) [0] (by decide) rfl
      have hK9 := hK.sub (tys' := []) [] rfl
      have eg_2 : gx_X0_act_2 a0 a1 a2 a4 a5 a6 p0 p1 = gx_X0_move_2 a2 p0 (fx_X0_statusOfAct a0 a1 a2 a4 a5 a6 p0 p1) := by unfold gx_X0_act_2; rw [if_neg c_1, if_pos c_2]
      have eg_4 : gx_X0_act_4 a0 a1 a2 a4 a5 a6 p0 p1 = gx_X0_move_4 a4 p0 (fx_X0_statusOfAct a0 a1 a2 a4 a5 a6 p0 p1) := by unfold gx_X0_act_4; rw [if_neg c_1, if_pos c_2]
      have eg_5 : gx_X0_act_5 a5 p0 = 0 := by unfold gx_X0_act_5; rw [if_neg c_1, if_pos c_2, if_pos c_4]
      have eg_6 : gx_X0_act_6 a0 a1 a2 a4 a5 a6 p0 p1 = 0 := by unfold gx_X0_act_6; rw [if_neg c_1, if_pos c_2, if_pos c_15]
      have eg_7 : gx_X0_act_7 a0 a1 a2 a4 a5 a6 a7 p0 p1 = gx_X0_remember_7 (fx_X0_statusOfAct a0 a1 a2 a4 a5 a6 p0 p1) := by unfold gx_X0_act_7; rw [if_neg c_1, if_pos c_2]
      have eg_8 : gx_X0_act_8 a8 p0 = gx_X0_remember_8 p0 := by unfold gx_X0_act_8; rw [if_neg c_1, if_pos c_2]
      have eg_10 : gx_X0_act_10 a0 a1 a2 a4 a5 a6 a10 p0 p1 = gx_X0_remember_10 a10 p0 (fx_X0_statusOfAct a0 a1 a2 a4 a5 a6 p0 p1) := by unfold gx_X0_act_10; rw [if_neg c_1, if_pos c_2]
      have eg_11 : gx_X0_act_11 a0 a1 a2 a4 a5 a6 a11 p0 p1 = gx_X0_remember_11 a11 (fx_X0_statusOfAct a0 a1 a2 a4 a5 a6 p0 p1) := by unfold gx_X0_act_11; rw [if_neg c_1, if_pos c_2]
      have ef : fx_X0_act a0 a1 a2 a4 a5 a6 p0 p1 = fx_X0_statusOfAct a0 a1 a2 a4 a5 a6 p0 p1 := by unfold fx_X0_act; rw [if_neg c_1, if_pos c_2]
      exact W.iret (v := fx_X0_statusOfAct a0 a1 a2 a4 a5 a6 p0 p1) hx hb hr (fun t ht hW => ⟨⟨(fx_X0_statusOfAct a0 a1 a2 a4 a5 a6 p0 p1), [(h0, .inr (0, [.int a0, .int a1, .int (gx_X0_move_2 a2 p0 (fx_X0_statusOfAct a0 a1 a2 a4 a5 a6 p0 p1)), .int a3, .int (gx_X0_move_4 a4 p0 (fx_X0_statusOfAct a0 a1 a2 a4 a5 a6 p0 p1)), .int 0, .int 0, .int (gx_X0_remember_7 (fx_X0_statusOfAct a0 a1 a2 a4 a5 a6 p0 p1)), .int (gx_X0_remember_8 p0), .int a9, .int (gx_X0_remember_10 a10 p0 (fx_X0_statusOfAct a0 a1 a2 a4 a5 a6 p0 p1)), .int (gx_X0_remember_11 a11 (fx_X0_statusOfAct a0 a1 a2 a4 a5 a6 p0 p1))]))], rfl, ⟨ef.symm, by rw [eg_2, eg_4, eg_5, eg_6, eg_7, eg_8, eg_10, eg_11]⟩, by rw [ht]; exact hP9, va_K.moved hW.alike hK9, hD9⟩, hS.F ht⟩) hS.2.2 dX0_act_65
    refine lv_iload_n hx hb dX0_act_43 rfl (lv_at hl 0 rfl) ?_
    have hPc := hP.sub (ws' := []) [] rfl
    have hDc := hD.sub (ws' := []) [] (by decide) rfl
    have hKc := hK.sub (tys' := []) [] rfl
    have hFc := va_free (wc := []) hD hS hA [] rfl
    refine va_calli (va_runS (As := [.int (fx_X0_statusOfAct a0 a1 a2 a4 a5 a6 p0 p1)]) (rest := [.ref h0]) ⟨hx, hb, hml, hown, hts⟩ (ct_X0_givesPlace l dC dI H.size (fx_X0_statusOfAct a0 a1 a2 a4 a5 a6 p0 p1)) (va_cwS 1 hts gX0_act_X0_givesPlace rfl rfl rfl (by decide +kernel) ⟨Nat.le_of_ble_eq_true rfl, Nat.le_of_ble_eq_true rfl⟩) ⟨fun a U g mk q => by obtain ⟨q0, q1, qP, qK, qD⟩ := q; exact ⟨q0, q1, qP, va_K.moved (u := U) (U := U.calling g mk a) (Vm.Alike.refl U.vm) qK, qD⟩, fun U hU hW => ⟨rfl, by rw [hU], by rw [hU]; exact hPc, va_K.moved hW.alike hKc, hDc.weaken (fun _ _ _ _ => trivial)⟩⟩ rfl rfl hl.1 rfl (lv_room (Nat.le_of_ble_eq_true rfl)) dX0_act_44 ⟨(Nat.zero_le _), (Nat.zero_le _)⟩) hS (fun q _ h => hFc q h) hFc (fun r_17 u t H1 locs ht hvm hw hB hz1 hk1 hS => ?_)
    obtain ⟨er, hu⟩ := hw
    subst hu
    subst er
    obtain ⟨hP1, hK1, hD1⟩ := hB
    rw [ht] at hP1
    have hK1 := va_K.moved hvm.symm hK1
    obtain ⟨hP, hD⟩ := va_join (wr := [(h0, .inr (0, [.int a0, .int a1, .int (gx_X0_move_2 a2 p0 (fx_X0_statusOfAct a0 a1 a2 a4 a5 a6 p0 p1)), .int a3, .int (gx_X0_move_4 a4 p0 (fx_X0_statusOfAct a0 a1 a2 a4 a5 a6 p0 p1)), .int 0, .int a6, .int a7, .int a8, .int a9, .int a10, .int a11]))]) (w1 := []) hP hD [] [0] rfl rfl (by decide) (by decide) hk1 hFc hP1 hD1
    have hK := (hK.sub (tys' := []) [] rfl).app hK1
    generalize H1 = H at hP hS ⊢
    have hP : va_P (dC, dI) vwCl [(h0, .inr (0, [.int a0, .int a1, .int (gx_X0_move_2 a2 p0 (fx_X0_statusOfAct a0 a1 a2 a4 a5 a6 p0 p1)), .int a3, .int (gx_X0_move_4 a4 p0 (fx_X0_statusOfAct a0 a1 a2 a4 a5 a6 p0 p1)), .int 0, .int a6, .int a7, .int a8, .int a9, .int a10, .int a11]))] H := hP
    have hD : va_D A [(h0, .inr (0, [.int a0, .int a1, .int (gx_X0_move_2 a2 p0 (fx_X0_statusOfAct a0 a1 a2 a4 a5 a6 p0 p1)), .int a3, .int (gx_X0_move_4 a4 p0 (fx_X0_statusOfAct a0 a1 a2 a4 a5 a6 p0 p1)), .int 0, .int a6, .int a7, .int a8, .int a9, .int a10, .int a11]))] := hD
    have hK : va_K (dC, dI) vwCl [] s := hK
    refine lv_if_eq (tgt := 54) hx hb dX0_act_47 (by decide) (fun c_18 => ?_) (fun c_18 => ?_)
    · refine lv_iconst (v := 0) hx hb dX0_act_54 (by decide) ?_
      refine va_put (D := (dC, dI)) (ci := 0) (v := .int 0) (ty := .boolean) (C := RX0) (T := TX0) (N := 12) hx hb hts (fun _ h => List.mem_cons_of_mem _ (List.mem_append_right _ h)) tyX0 tyX0_ok nmX0 hown hK hP hD hS 0 rfl rfl 6 (by decide) (hts (.fieldLink RX0 26 "FileStatus" "permit" "Z") (by decide +kernel)) (fun _ h9 => h9) rfl (by decide +kernel) rfl rfl (Nat.le_of_ble_eq_true rfl) dX0_act_55 (fun H locs hP hD hS => ?_)
      have hP : va_P (dC, dI) vwCl [(h0, .inr (0, [.int a0, .int a1, .int (gx_X0_move_2 a2 p0 (fx_X0_statusOfAct a0 a1 a2 a4 a5 a6 p0 p1)), .int a3, .int (gx_X0_move_4 a4 p0 (fx_X0_statusOfAct a0 a1 a2 a4 a5 a6 p0 p1)), .int 0, .int 0, .int a7, .int a8, .int a9, .int a10, .int a11]))] H := hP
      have hD : va_D A [(h0, .inr (0, [.int a0, .int a1, .int (gx_X0_move_2 a2 p0 (fx_X0_statusOfAct a0 a1 a2 a4 a5 a6 p0 p1)), .int a3, .int (gx_X0_move_4 a4 p0 (fx_X0_statusOfAct a0 a1 a2 a4 a5 a6 p0 p1)), .int 0, .int 0, .int a7, .int a8, .int a9, .int a10, .int a11]))] := hD
      refine lv_aload_n hx hb dX0_act_58 rfl (lv_at hl 1 rfl) ?_
      refine lv_iload_n hx hb dX0_act_59 rfl (lv_at hl 2 rfl) ?_
      refine lv_iload_n hx hb dX0_act_60 rfl (lv_at hl 0 rfl) ?_
      have hPc := hP.sub (ws' := [(h0, .inr (0, [.int a0, .int a1, .int (gx_X0_move_2 a2 p0 (fx_X0_statusOfAct a0 a1 a2 a4 a5 a6 p0 p1)), .int a3, .int (gx_X0_move_4 a4 p0 (fx_X0_statusOfAct a0 a1 a2 a4 a5 a6 p0 p1)), .int 0, .int 0, .int a7, .int a8, .int a9, .int a10, .int a11]))]) [0] rfl
      have hDc := hD.sub (ws' := [(h0, .inr (0, [.int a0, .int a1, .int (gx_X0_move_2 a2 p0 (fx_X0_statusOfAct a0 a1 a2 a4 a5 a6 p0 p1)), .int a3, .int (gx_X0_move_4 a4 p0 (fx_X0_statusOfAct a0 a1 a2 a4 a5 a6 p0 p1)), .int 0, .int 0, .int a7, .int a8, .int a9, .int a10, .int a11]))]) [0] (by decide) rfl
      have hKc := hK.sub (tys' := []) [] rfl
      have hFc := va_free (wc := [(h0, .inr (0, [.int a0, .int a1, .int (gx_X0_move_2 a2 p0 (fx_X0_statusOfAct a0 a1 a2 a4 a5 a6 p0 p1)), .int a3, .int (gx_X0_move_4 a4 p0 (fx_X0_statusOfAct a0 a1 a2 a4 a5 a6 p0 p1)), .int 0, .int 0, .int a7, .int a8, .int a9, .int a10, .int a11]))]) hD hS hA [0] rfl
      refine va_callv (va_runV (As := [.int p0, .int (fx_X0_statusOfAct a0 a1 a2 a4 a5 a6 p0 p1)]) (rest := []) ⟨hx, hb, hml, hown, hts⟩ (ct_X0_remember l dC dI h0 H.size a0 a1 (gx_X0_move_2 a2 p0 (fx_X0_statusOfAct a0 a1 a2 a4 a5 a6 p0 p1)) a3 (gx_X0_move_4 a4 p0 (fx_X0_statusOfAct a0 a1 a2 a4 a5 a6 p0 p1)) 0 0 a7 a8 a9 a10 a11 p0 (fx_X0_statusOfAct a0 a1 a2 a4 a5 a6 p0 p1)) (cwV 2 hts gX0_act_X0_remember rfl rfl rfl (by decide +kernel) ⟨Nat.le_of_ble_eq_true rfl, Nat.le_of_ble_eq_true rfl⟩) ⟨fun a U g mk q => by obtain ⟨q0, q1, qP, qK, qD⟩ := q; exact ⟨q0, q1, qP, va_K.moved (u := U) (U := U.calling g mk a) (Vm.Alike.refl U.vm) qK, qD⟩, va_recv hKc hPc (ci := 0) (q0 := 0) rfl rfl, fun U hU hW => ⟨rfl, by rw [hU], by rw [hU]; exact hPc, va_K.moved hW.alike hKc, hDc.weaken (fun _ _ _ _ => trivial)⟩⟩ rfl rfl hl.1 rfl (lv_room (Nat.le_of_ble_eq_true rfl)) dX0_act_61 ⟨(Nat.zero_le _), (Nat.zero_le _)⟩) hS (fun q _ h => hFc q h) hFc (fun u t H1 locs ht hvm hw hB hz1 hk1 hS => ?_)
      subst hw
      obtain ⟨hP1, hK1, hD1⟩ := hB
      rw [ht] at hP1
      have hK1 := va_K.moved hvm.symm hK1
      obtain ⟨hP, hD⟩ := va_join (wr := []) (w1 := [(h0, .inr (0, [.int a0, .int a1, .int (gx_X0_move_2 a2 p0 (fx_X0_statusOfAct a0 a1 a2 a4 a5 a6 p0 p1)), .int a3, .int (gx_X0_move_4 a4 p0 (fx_X0_statusOfAct a0 a1 a2 a4 a5 a6 p0 p1)), .int 0, .int 0, .int (gx_X0_remember_7 (fx_X0_statusOfAct a0 a1 a2 a4 a5 a6 p0 p1)), .int (gx_X0_remember_8 p0), .int a9, .int (gx_X0_remember_10 a10 p0 (fx_X0_statusOfAct a0 a1 a2 a4 a5 a6 p0 p1)), .int (gx_X0_remember_11 a11 (fx_X0_statusOfAct a0 a1 a2 a4 a5 a6 p0 p1))]))]) hP hD [0] [] rfl rfl (by decide) (by decide) hk1 hFc hP1 hD1
      have hK := (hK.sub (tys' := []) [] rfl).app hK1
      generalize H1 = H at hP hS ⊢
      have hP : va_P (dC, dI) vwCl [(h0, .inr (0, [.int a0, .int a1, .int (gx_X0_move_2 a2 p0 (fx_X0_statusOfAct a0 a1 a2 a4 a5 a6 p0 p1)), .int a3, .int (gx_X0_move_4 a4 p0 (fx_X0_statusOfAct a0 a1 a2 a4 a5 a6 p0 p1)), .int 0, .int 0, .int (gx_X0_remember_7 (fx_X0_statusOfAct a0 a1 a2 a4 a5 a6 p0 p1)), .int (gx_X0_remember_8 p0), .int a9, .int (gx_X0_remember_10 a10 p0 (fx_X0_statusOfAct a0 a1 a2 a4 a5 a6 p0 p1)), .int (gx_X0_remember_11 a11 (fx_X0_statusOfAct a0 a1 a2 a4 a5 a6 p0 p1))]))] H := hP
      have hD : va_D A [(h0, .inr (0, [.int a0, .int a1, .int (gx_X0_move_2 a2 p0 (fx_X0_statusOfAct a0 a1 a2 a4 a5 a6 p0 p1)), .int a3, .int (gx_X0_move_4 a4 p0 (fx_X0_statusOfAct a0 a1 a2 a4 a5 a6 p0 p1)), .int 0, .int 0, .int (gx_X0_remember_7 (fx_X0_statusOfAct a0 a1 a2 a4 a5 a6 p0 p1)), .int (gx_X0_remember_8 p0), .int a9, .int (gx_X0_remember_10 a10 p0 (fx_X0_statusOfAct a0 a1 a2 a4 a5 a6 p0 p1)), .int (gx_X0_remember_11 a11 (fx_X0_statusOfAct a0 a1 a2 a4 a5 a6 p0 p1))]))] := hD
      have hK : va_K (dC, dI) vwCl [] s := hK
      refine lv_iload_n hx hb dX0_act_64 rfl (lv_at hl 0 rfl) ?_
      have hP9 := hP.sub (ws' := [(h0, .inr (0, [.int a0, .int a1, .int (gx_X0_move_2 a2 p0 (fx_X0_statusOfAct a0 a1 a2 a4 a5 a6 p0 p1)), .int a3, .int (gx_X0_move_4 a4 p0 (fx_X0_statusOfAct a0 a1 a2 a4 a5 a6 p0 p1)), .int 0, .int 0, .int (gx_X0_remember_7 (fx_X0_statusOfAct a0 a1 a2 a4 a5 a6 p0 p1)), .int (gx_X0_remember_8 p0), .int a9, .int (gx_X0_remember_10 a10 p0 (fx_X0_statusOfAct a0 a1 a2 a4 a5 a6 p0 p1)), .int (gx_X0_remember_11 a11 (fx_X0_statusOfAct a0 a1 a2 a4 a5 a6 p0 p1))]))]) [0] rfl
      have hD9 := hD.sub (ws' := [(h0, .inr (0, [.int a0, .int a1, .int (gx_X0_move_2 a2 p0 (fx_X0_statusOfAct a0 a1 a2 a4 a5 a6 p0 p1)), .int a3, .int (gx_X0_move_4 a4 p0 (fx_X0_statusOfAct a0 a1 a2 a4 a5 a6 p0 p1)), .int 0, .int 0, .int (gx_X0_remember_7 (fx_X0_statusOfAct a0 a1 a2 a4 a5 a6 p0 p1)), .int (gx_X0_remember_8 p0), .int a9, .int (gx_X0_remember_10 a10 p0 (fx_X0_statusOfAct a0 a1 a2 a4 a5 a6 p0 p1)), .int (gx_X0_remember_11 a11 (fx_X0_statusOfAct a0 a1 a2 a4 a5 a6 p0 p1))]))]) [0] (by decide) rfl
      have hK9 := hK.sub (tys' := []) [] rfl
      have eg_2 : gx_X0_act_2 a0 a1 a2 a4 a5 a6 p0 p1 = gx_X0_move_2 a2 p0 (fx_X0_statusOfAct a0 a1 a2 a4 a5 a6 p0 p1) := by unfold gx_X0_act_2; rw [if_neg c_1, if_pos c_2]
      have eg_4 : gx_X0_act_4 a0 a1 a2 a4 a5 a6 p0 p1 = gx_X0_move_4 a4 p0 (fx_X0_statusOfAct a0 a1 a2 a4 a5 a6 p0 p1) := by unfold gx_X0_act_4; rw [if_neg c_1, if_pos c_2]
      have eg_5 : gx_X0_act_5 a5 p0 = 0 := by unfold gx_X0_act_5; rw [if_neg c_1, if_pos c_2, if_pos c_4]
      have eg_6 : gx_X0_act_6 a0 a1 a2 a4 a5 a6 p0 p1 = 0 := by unfold gx_X0_act_6; rw [if_neg c_1, if_pos c_2, if_neg c_15, if_pos c_18]
      have eg_7 : gx_X0_act_7 a0 a1 a2 a4 a5 a6 a7 p0 p1 = gx_X0_remember_7 (fx_X0_statusOfAct a0 a1 a2 a4 a5 a6 p0 p1) := by unfold gx_X0_act_7; rw [if_neg c_1, if_pos c_2]
      have eg_8 : gx_X0_act_8 a8 p0 = gx_X0_remember_8 p0 := by unfold gx_X0_act_8; rw [if_neg c_1, if_pos c_2]
      have eg_10 : gx_X0_act_10 a0 a1 a2 a4 a5 a6 a10 p0 p1 = gx_X0_remember_10 a10 p0 (fx_X0_statusOfAct a0 a1 a2 a4 a5 a6 p0 p1) := by unfold gx_X0_act_10; rw [if_neg c_1, if_pos c_2]
      have eg_11 : gx_X0_act_11 a0 a1 a2 a4 a5 a6 a11 p0 p1 = gx_X0_remember_11 a11 (fx_X0_statusOfAct a0 a1 a2 a4 a5 a6 p0 p1) := by unfold gx_X0_act_11; rw [if_neg c_1, if_pos c_2]
      have ef : fx_X0_act a0 a1 a2 a4 a5 a6 p0 p1 = fx_X0_statusOfAct a0 a1 a2 a4 a5 a6 p0 p1 := by unfold fx_X0_act; rw [if_neg c_1, if_pos c_2]
      exact W.iret (v := fx_X0_statusOfAct a0 a1 a2 a4 a5 a6 p0 p1) hx hb hr (fun t ht hW => ⟨⟨(fx_X0_statusOfAct a0 a1 a2 a4 a5 a6 p0 p1), [(h0, .inr (0, [.int a0, .int a1, .int (gx_X0_move_2 a2 p0 (fx_X0_statusOfAct a0 a1 a2 a4 a5 a6 p0 p1)), .int a3, .int (gx_X0_move_4 a4 p0 (fx_X0_statusOfAct a0 a1 a2 a4 a5 a6 p0 p1)), .int 0, .int 0, .int (gx_X0_remember_7 (fx_X0_statusOfAct a0 a1 a2 a4 a5 a6 p0 p1)), .int (gx_X0_remember_8 p0), .int a9, .int (gx_X0_remember_10 a10 p0 (fx_X0_statusOfAct a0 a1 a2 a4 a5 a6 p0 p1)), .int (gx_X0_remember_11 a11 (fx_X0_statusOfAct a0 a1 a2 a4 a5 a6 p0 p1))]))], rfl, ⟨ef.symm, by rw [eg_2, eg_4, eg_5, eg_6, eg_7, eg_8, eg_10, eg_11]⟩, by rw [ht]; exact hP9, va_K.moved hW.alike hK9, hD9⟩, hS.F ht⟩) hS.2.2 dX0_act_65
    refine lv_iconst (v := 1) hx hb dX0_act_50 (by decide) ?_
    refine lv_goto (tgt := 55) hx hb dX0_act_51 (by decide) ?_
    refine va_put (D := (dC, dI)) (ci := 0) (v := .int 1) (ty := .boolean) (C := RX0) (T := TX0) (N := 12) hx hb hts (fun _ h => List.mem_cons_of_mem _ (List.mem_append_right _ h)) tyX0 tyX0_ok nmX0 hown hK hP hD hS 0 rfl rfl 6 (by decide) (hts (.fieldLink RX0 26 "FileStatus" "permit" "Z") (by decide +kernel)) (fun _ h9 => h9) rfl (by decide +kernel) rfl rfl (Nat.le_of_ble_eq_true rfl) dX0_act_55 (fun H locs hP hD hS => ?_)
    have hP : va_P (dC, dI) vwCl [(h0, .inr (0, [.int a0, .int a1, .int (gx_X0_move_2 a2 p0 (fx_X0_statusOfAct a0 a1 a2 a4 a5 a6 p0 p1)), .int a3, .int (gx_X0_move_4 a4 p0 (fx_X0_statusOfAct a0 a1 a2 a4 a5 a6 p0 p1)), .int 0, .int 1, .int a7, .int a8, .int a9, .int a10, .int a11]))] H := hP
    have hD : va_D A [(h0, .inr (0, [.int a0, .int a1, .int (gx_X0_move_2 a2 p0 (fx_X0_statusOfAct a0 a1 a2 a4 a5 a6 p0 p1)), .int a3, .int (gx_X0_move_4 a4 p0 (fx_X0_statusOfAct a0 a1 a2 a4 a5 a6 p0 p1)), .int 0, .int 1, .int a7, .int a8, .int a9, .int a10, .int a11]))] := hD
    refine lv_aload_n hx hb dX0_act_58 rfl (lv_at hl 1 rfl) ?_
    refine lv_iload_n hx hb dX0_act_59 rfl (lv_at hl 2 rfl) ?_
    refine lv_iload_n hx hb dX0_act_60 rfl (lv_at hl 0 rfl) ?_
    have hPc := hP.sub (ws' := [(h0, .inr (0, [.int a0, .int a1, .int (gx_X0_move_2 a2 p0 (fx_X0_statusOfAct a0 a1 a2 a4 a5 a6 p0 p1)), .int a3, .int (gx_X0_move_4 a4 p0 (fx_X0_statusOfAct a0 a1 a2 a4 a5 a6 p0 p1)), .int 0, .int 1, .int a7, .int a8, .int a9, .int a10, .int a11]))]) [0] rfl
    have hDc := hD.sub (ws' := [(h0, .inr (0, [.int a0, .int a1, .int (gx_X0_move_2 a2 p0 (fx_X0_statusOfAct a0 a1 a2 a4 a5 a6 p0 p1)), .int a3, .int (gx_X0_move_4 a4 p0 (fx_X0_statusOfAct a0 a1 a2 a4 a5 a6 p0 p1)), .int 0, .int 1, .int a7, .int a8, .int a9, .int a10, .int a11]))]) [0] (by decide) rfl
    have hKc := hK.sub (tys' := []) [] rfl
    have hFc := va_free (wc := [(h0, .inr (0, [.int a0, .int a1, .int (gx_X0_move_2 a2 p0 (fx_X0_statusOfAct a0 a1 a2 a4 a5 a6 p0 p1)), .int a3, .int (gx_X0_move_4 a4 p0 (fx_X0_statusOfAct a0 a1 a2 a4 a5 a6 p0 p1)), .int 0, .int 1, .int a7, .int a8, .int a9, .int a10, .int a11]))]) hD hS hA [0] rfl
    refine va_callv (va_runV (As := [.int p0, .int (fx_X0_statusOfAct a0 a1 a2 a4 a5 a6 p0 p1)]) (rest := []) ⟨hx, hb, hml, hown, hts⟩ (ct_X0_remember l dC dI h0 H.size a0 a1 (gx_X0_move_2 a2 p0 (fx_X0_statusOfAct a0 a1 a2 a4 a5 a6 p0 p1)) a3 (gx_X0_move_4 a4 p0 (fx_X0_statusOfAct a0 a1 a2 a4 a5 a6 p0 p1)) 0 1 a7 a8 a9 a10 a11 p0 (fx_X0_statusOfAct a0 a1 a2 a4 a5 a6 p0 p1)) (cwV 2 hts gX0_act_X0_remember rfl rfl rfl (by decide +kernel) ⟨Nat.le_of_ble_eq_true rfl, Nat.le_of_ble_eq_true rfl⟩) ⟨fun a U g mk q => by obtain ⟨q0, q1, qP, qK, qD⟩ := q; exact ⟨q0, q1, qP, va_K.moved (u := U) (U := U.calling g mk a) (Vm.Alike.refl U.vm) qK, qD⟩, va_recv hKc hPc (ci := 0) (q0 := 0) rfl rfl, fun U hU hW => ⟨rfl, by rw [hU], by rw [hU]; exact hPc, va_K.moved hW.alike hKc, hDc.weaken (fun _ _ _ _ => trivial)⟩⟩ rfl rfl hl.1 rfl (lv_room (Nat.le_of_ble_eq_true rfl)) dX0_act_61 ⟨(Nat.zero_le _), (Nat.zero_le _)⟩) hS (fun q _ h => hFc q h) hFc (fun u t H1 locs ht hvm hw hB hz1 hk1 hS => ?_)
    subst hw
    obtain ⟨hP1, hK1, hD1⟩ := hB
    rw [ht] at hP1
    have hK1 := va_K.moved hvm.symm hK1
    obtain ⟨hP, hD⟩ := va_join (wr := []) (w1 := [(h0, .inr (0, [.int a0, .int a1, .int (gx_X0_move_2 a2 p0 (fx_X0_statusOfAct a0 a1 a2 a4 a5 a6 p0 p1)), .int a3, .int (gx_X0_move_4 a4 p0 (fx_X0_statusOfAct a0 a1 a2 a4 a5 a6 p0 p1)), .int 0, .int 1, .int (gx_X0_remember_7 (fx_X0_statusOfAct a0 a1 a2 a4 a5 a6 p0 p1)), .int (gx_X0_remember_8 p0), .int a9, .int (gx_X0_remember_10 a10 p0 (fx_X0_statusOfAct a0 a1 a2 a4 a5 a6 p0 p1)), .int (gx_X0_remember_11 a11 (fx_X0_statusOfAct a0 a1 a2 a4 a5 a6 p0 p1))]))]) hP hD [0] [] rfl rfl (by decide) (by decide) hk1 hFc hP1 hD1
    have hK := (hK.sub (tys' := []) [] rfl).app hK1
    generalize H1 = H at hP hS ⊢
    have hP : va_P (dC, dI) vwCl [(h0, .inr (0, [.int a0, .int a1, .int (gx_X0_move_2 a2 p0 (fx_X0_statusOfAct a0 a1 a2 a4 a5 a6 p0 p1)), .int a3, .int (gx_X0_move_4 a4 p0 (fx_X0_statusOfAct a0 a1 a2 a4 a5 a6 p0 p1)), .int 0, .int 1, .int (gx_X0_remember_7 (fx_X0_statusOfAct a0 a1 a2 a4 a5 a6 p0 p1)), .int (gx_X0_remember_8 p0), .int a9, .int (gx_X0_remember_10 a10 p0 (fx_X0_statusOfAct a0 a1 a2 a4 a5 a6 p0 p1)), .int (gx_X0_remember_11 a11 (fx_X0_statusOfAct a0 a1 a2 a4 a5 a6 p0 p1))]))] H := hP
    have hD : va_D A [(h0, .inr (0, [.int a0, .int a1, .int (gx_X0_move_2 a2 p0 (fx_X0_statusOfAct a0 a1 a2 a4 a5 a6 p0 p1)), .int a3, .int (gx_X0_move_4 a4 p0 (fx_X0_statusOfAct a0 a1 a2 a4 a5 a6 p0 p1)), .int 0, .int 1, .int (gx_X0_remember_7 (fx_X0_statusOfAct a0 a1 a2 a4 a5 a6 p0 p1)), .int (gx_X0_remember_8 p0), .int a9, .int (gx_X0_remember_10 a10 p0 (fx_X0_statusOfAct a0 a1 a2 a4 a5 a6 p0 p1)), .int (gx_X0_remember_11 a11 (fx_X0_statusOfAct a0 a1 a2 a4 a5 a6 p0 p1))]))] := hD
    have hK : va_K (dC, dI) vwCl [] s := hK
    refine lv_iload_n hx hb dX0_act_64 rfl (lv_at hl 0 rfl) ?_
    have hP9 := hP.sub (ws' := [(h0, .inr (0, [.int a0, .int a1, .int (gx_X0_move_2 a2 p0 (fx_X0_statusOfAct a0 a1 a2 a4 a5 a6 p0 p1)), .int a3, .int (gx_X0_move_4 a4 p0 (fx_X0_statusOfAct a0 a1 a2 a4 a5 a6 p0 p1)), .int 0, .int 1, .int (gx_X0_remember_7 (fx_X0_statusOfAct a0 a1 a2 a4 a5 a6 p0 p1)), .int (gx_X0_remember_8 p0), .int a9, .int (gx_X0_remember_10 a10 p0 (fx_X0_statusOfAct a0 a1 a2 a4 a5 a6 p0 p1)), .int (gx_X0_remember_11 a11 (fx_X0_statusOfAct a0 a1 a2 a4 a5 a6 p0 p1))]))]) [0] rfl
    have hD9 := hD.sub (ws' := [(h0, .inr (0, [.int a0, .int a1, .int (gx_X0_move_2 a2 p0 (fx_X0_statusOfAct a0 a1 a2 a4 a5 a6 p0 p1)), .int a3, .int (gx_X0_move_4 a4 p0 (fx_X0_statusOfAct a0 a1 a2 a4 a5 a6 p0 p1)), .int 0, .int 1, .int (gx_X0_remember_7 (fx_X0_statusOfAct a0 a1 a2 a4 a5 a6 p0 p1)), .int (gx_X0_remember_8 p0), .int a9, .int (gx_X0_remember_10 a10 p0 (fx_X0_statusOfAct a0 a1 a2 a4 a5 a6 p0 p1)), .int (gx_X0_remember_11 a11 (fx_X0_statusOfAct a0 a1 a2 a4 a5 a6 p0 p1))]))]) [0] (by decide) rfl
    have hK9 := hK.sub (tys' := []) [] rfl
    have eg_2 : gx_X0_act_2 a0 a1 a2 a4 a5 a6 p0 p1 = gx_X0_move_2 a2 p0 (fx_X0_statusOfAct a0 a1 a2 a4 a5 a6 p0 p1) := by unfold gx_X0_act_2; rw [if_neg c_1, if_pos c_2]
    have eg_4 : gx_X0_act_4 a0 a1 a2 a4 a5 a6 p0 p1 = gx_X0_move_4 a4 p0 (fx_X0_statusOfAct a0 a1 a2 a4 a5 a6 p0 p1) := by unfold gx_X0_act_4; rw [if_neg c_1, if_pos c_2]
    have eg_5 : gx_X0_act_5 a5 p0 = 0 := by unfold gx_X0_act_5; rw [if_neg c_1, if_pos c_2, if_pos c_4]
    have eg_6 : gx_X0_act_6 a0 a1 a2 a4 a5 a6 p0 p1 = 1 := by unfold gx_X0_act_6; rw [if_neg c_1, if_pos c_2, if_neg c_15, if_neg c_18]
    have eg_7 : gx_X0_act_7 a0 a1 a2 a4 a5 a6 a7 p0 p1 = gx_X0_remember_7 (fx_X0_statusOfAct a0 a1 a2 a4 a5 a6 p0 p1) := by unfold gx_X0_act_7; rw [if_neg c_1, if_pos c_2]
    have eg_8 : gx_X0_act_8 a8 p0 = gx_X0_remember_8 p0 := by unfold gx_X0_act_8; rw [if_neg c_1, if_pos c_2]
    have eg_10 : gx_X0_act_10 a0 a1 a2 a4 a5 a6 a10 p0 p1 = gx_X0_remember_10 a10 p0 (fx_X0_statusOfAct a0 a1 a2 a4 a5 a6 p0 p1) := by unfold gx_X0_act_10; rw [if_neg c_1, if_pos c_2]
    have eg_11 : gx_X0_act_11 a0 a1 a2 a4 a5 a6 a11 p0 p1 = gx_X0_remember_11 a11 (fx_X0_statusOfAct a0 a1 a2 a4 a5 a6 p0 p1) := by unfold gx_X0_act_11; rw [if_neg c_1, if_pos c_2]
    have ef : fx_X0_act a0 a1 a2 a4 a5 a6 p0 p1 = fx_X0_statusOfAct a0 a1 a2 a4 a5 a6 p0 p1 := by unfold fx_X0_act; rw [if_neg c_1, if_pos c_2]
    exact W.iret (v := fx_X0_statusOfAct a0 a1 a2 a4 a5 a6 p0 p1) hx hb hr (fun t ht hW => ⟨⟨(fx_X0_statusOfAct a0 a1 a2 a4 a5 a6 p0 p1), [(h0, .inr (0, [.int a0, .int a1, .int (gx_X0_move_2 a2 p0 (fx_X0_statusOfAct a0 a1 a2 a4 a5 a6 p0 p1)), .int a3, .int (gx_X0_move_4 a4 p0 (fx_X0_statusOfAct a0 a1 a2 a4 a5 a6 p0 p1)), .int 0, .int 1, .int (gx_X0_remember_7 (fx_X0_statusOfAct a0 a1 a2 a4 a5 a6 p0 p1)), .int (gx_X0_remember_8 p0), .int a9, .int (gx_X0_remember_10 a10 p0 (fx_X0_statusOfAct a0 a1 a2 a4 a5 a6 p0 p1)), .int (gx_X0_remember_11 a11 (fx_X0_statusOfAct a0 a1 a2 a4 a5 a6 p0 p1))]))], rfl, ⟨ef.symm, by rw [eg_2, eg_4, eg_5, eg_6, eg_7, eg_8, eg_10, eg_11]⟩, by rw [ht]; exact hP9, va_K.moved hW.alike hK9, hD9⟩, hS.F ht⟩) hS.2.2 dX0_act_65
  refine lv_bipush (v := (-4)) hx hb dX0_act_10 (by decide) ?_
  have hP9 := hP.sub (ws' := [(h0, .inr (0, [.int a0, .int a1, .int a2, .int a3, .int a4, .int a5, .int a6, .int a7, .int a8, .int a9, .int a10, .int a11]))]) [0] rfl
  have hD9 := hD.sub (ws' := [(h0, .inr (0, [.int a0, .int a1, .int a2, .int a3, .int a4, .int a5, .int a6, .int a7, .int a8, .int a9, .int a10, .int a11]))]) [0] (by decide) rfl
  have hK9 := hK.sub (tys' := []) [] rfl
  have eg_2 : gx_X0_act_2 a0 a1 a2 a4 a5 a6 p0 p1 = a2 := by unfold gx_X0_act_2; rw [if_neg c_1, if_neg c_2]
  have eg_4 : gx_X0_act_4 a0 a1 a2 a4 a5 a6 p0 p1 = a4 := by unfold gx_X0_act_4; rw [if_neg c_1, if_neg c_2]
  have eg_5 : gx_X0_act_5 a5 p0 = a5 := by unfold gx_X0_act_5; rw [if_neg c_1, if_neg c_2]
  have eg_6 : gx_X0_act_6 a0 a1 a2 a4 a5 a6 p0 p1 = a6 := by unfold gx_X0_act_6; rw [if_neg c_1, if_neg c_2]
  have eg_7 : gx_X0_act_7 a0 a1 a2 a4 a5 a6 a7 p0 p1 = a7 := by unfold gx_X0_act_7; rw [if_neg c_1, if_neg c_2]
  have eg_8 : gx_X0_act_8 a8 p0 = a8 := by unfold gx_X0_act_8; rw [if_neg c_1, if_neg c_2]
  have eg_10 : gx_X0_act_10 a0 a1 a2 a4 a5 a6 a10 p0 p1 = a10 := by unfold gx_X0_act_10; rw [if_neg c_1, if_neg c_2]
  have eg_11 : gx_X0_act_11 a0 a1 a2 a4 a5 a6 a11 p0 p1 = a11 := by unfold gx_X0_act_11; rw [if_neg c_1, if_neg c_2]
  have ef : fx_X0_act a0 a1 a2 a4 a5 a6 p0 p1 = (-4) := by unfold fx_X0_act; rw [if_neg c_1, if_neg c_2]
  exact W.iret (v := (-4)) hx hb hr (fun t ht hW => ⟨⟨(-4), [(h0, .inr (0, [.int a0, .int a1, .int a2, .int a3, .int a4, .int a5, .int a6, .int a7, .int a8, .int a9, .int a10, .int a11]))], rfl, ⟨ef.symm, by rw [eg_2, eg_4, eg_5, eg_6, eg_7, eg_8, eg_10, eg_11]⟩, by rw [ht]; exact hP9, va_K.moved hW.alike hK9, hD9⟩, hS.F ht⟩) hS.2.2 dX0_act_12
end
